/-! the reference goes on to the next word: all of it -/
set_option maxHeartbeats 4000000 in
set_option maxRecDepth 100000 in
theorem c_M_nt_c {g : Gl} {d ks : Nat} {h : AH} {z s tf : Nat → Int32} {tb : Nat → Nat} {tl b : Nat} (hB : TpOk tf tb) (htl : tl ≤ 96) (hbl : b ≤ tl) {τ : Nat} (hτ : (glT tb tl b → τ = 1) ∧ (¬ glT tb tl b → τ = 0)) (l2 : Option Value) (hd : 2 ≤ d) {h1 : AH} {z1 : Nat → Int32} (hT1 : TpM g h1 z1 s tf tl) (zk : zK z z1) (h17 : z1 17 = nI b) (hF : FrX c75 g h h1) : Ex g mX7_nextToken d 0 ks 90 [some (.ref (g.1 + 75)), some (.int (nI τ)), l2] [] h1 (qv (fun h' => ∃ z', TpM g h' z' s tf tl ∧ zK z z' ∧ tkZ tb tl b z' ∧ FrX c75 g h h')) := by
  by_cases hb : b < tl
  · by_cases h1_ : srt tb tl b = 1
    · skip
      refine ex_aload_n (pc := 90) dX7_nextToken_90 rfl ?_
      refine ex_aload_n (pc := 91) dX7_nextToken_91 rfl ?_
      refine ex_get (pc := 92) dX7_nextToken_92 fl_X7_280 hT1.1.1 rfl ?_
      rw [h17]
      refine ex_put (pc := 95) dX7_nextToken_95 fp_X7_286 hT1.1.1 (Nat.le_of_ble_eq_true rfl) rfl rfl ?_
      rw [mo_16]
      have hT2 := hT1.z (z' := upd z1 16 (nI b)) (upd_ne (by decide))
      have zk2 : zK z (upd z1 16 (nI b)) := zk.up (by omega) (by omega)
      have h16 : upd z1 16 (nI b) 16 = nI b := upd_eq
      have h17' : upd z1 16 (nI b) 17 = nI b := (upd_ne (by decide)).trans h17
      refine ex_aload_n (pc := 98) dX7_nextToken_98 rfl ?_
      refine ex_get (pc := 99) dX7_nextToken_99 fl_X7_286 hT2.1.1 rfl ?_
      refine ex_aload_n (pc := 102) dX7_nextToken_102 rfl ?_
      refine ex_get (pc := 103) dX7_nextToken_103 fl_X7_268 hT2.1.1 rfl ?_
      rw [h16, hT2.2.2.1]
      refine bx_icmp_ne_t (pc := 106) (tgt := 117) dX7_nextToken_106 (by decide) (fun z => absurd ((nI_eq (by omega) (by omega)).mp z) (by omega)) ?_
      refine ex_aload_n (pc := 117) dX7_nextToken_117 rfl ?_
      refine ex_aload_n (pc := 118) dX7_nextToken_118 rfl ?_
      refine ex_get (pc := 119) dX7_nextToken_119 fl_X7_286 hT2.1.1 rfl ?_
      rw [h16]
      refine cx_VL1i (pc := 122) dX7_nextToken_122 lk_X7_289 hT2.1.1 rfl (Nat.le_of_ble_eq_true rfl) (Nat.le_of_ble_eq_true rfl) (by omega) (c_M_isLetter hT2 hB (by omega) (i := b) (by omega)) (fun h_122 x_122 q_122 => ?_)
      obtain ⟨e_122, f_122⟩ := q_122
      rw [e_122, f_122]
      refine bx_if_eq_f (pc := 125) (tgt := 198) dX7_nextToken_125 (by decide) (by rw [decide_eq_true h1_]; decide) ?_
      exact c_M_nt_l hB htl hb h1_ hτ l2 hd (tl - b) b _ _ hT2 zk2 h16 h17' (hF.tr (FrX.st rfl (nscr (by omega)))) (Nat.le_refl _) (rn_1 hb h1_ (by decide)) (by omega)
    · by_cases h2_ : srt tb tl b = 2
      · skip
        refine ex_aload_n (pc := 90) dX7_nextToken_90 rfl ?_
        refine ex_aload_n (pc := 91) dX7_nextToken_91 rfl ?_
        refine ex_get (pc := 92) dX7_nextToken_92 fl_X7_280 hT1.1.1 rfl ?_
        rw [h17]
        refine ex_put (pc := 95) dX7_nextToken_95 fp_X7_286 hT1.1.1 (Nat.le_of_ble_eq_true rfl) rfl rfl ?_
        rw [mo_16]
        have hT2 := hT1.z (z' := upd z1 16 (nI b)) (upd_ne (by decide))
        have zk2 : zK z (upd z1 16 (nI b)) := zk.up (by omega) (by omega)
        have h16 : upd z1 16 (nI b) 16 = nI b := upd_eq
        have h17' : upd z1 16 (nI b) 17 = nI b := (upd_ne (by decide)).trans h17
        refine ex_aload_n (pc := 98) dX7_nextToken_98 rfl ?_
        refine ex_get (pc := 99) dX7_nextToken_99 fl_X7_286 hT2.1.1 rfl ?_
        refine ex_aload_n (pc := 102) dX7_nextToken_102 rfl ?_
        refine ex_get (pc := 103) dX7_nextToken_103 fl_X7_268 hT2.1.1 rfl ?_
        rw [h16, hT2.2.2.1]
        refine bx_icmp_ne_t (pc := 106) (tgt := 117) dX7_nextToken_106 (by decide) (fun z => absurd ((nI_eq (by omega) (by omega)).mp z) (by omega)) ?_
        refine ex_aload_n (pc := 117) dX7_nextToken_117 rfl ?_
        refine ex_aload_n (pc := 118) dX7_nextToken_118 rfl ?_
        refine ex_get (pc := 119) dX7_nextToken_119 fl_X7_286 hT2.1.1 rfl ?_
        rw [h16]
        refine cx_VL1i (pc := 122) dX7_nextToken_122 lk_X7_289 hT2.1.1 rfl (Nat.le_of_ble_eq_true rfl) (Nat.le_of_ble_eq_true rfl) (by omega) (c_M_isLetter hT2 hB (by omega) (i := b) (by omega)) (fun h_122 x_122 q_122 => ?_)
        obtain ⟨e_122, f_122⟩ := q_122
        rw [e_122, f_122]
        refine bx_if_eq_t (pc := 125) (tgt := 198) dX7_nextToken_125 (by decide) (by rw [decide_eq_false h1_]; rfl) ?_
        refine ex_aload_n (pc := 198) dX7_nextToken_198 rfl ?_
        refine ex_aload_n (pc := 199) dX7_nextToken_199 rfl ?_
        refine ex_get (pc := 200) dX7_nextToken_200 fl_X7_286 hT2.1.1 rfl ?_
        rw [h16]
        refine cx_VL1i (pc := 203) dX7_nextToken_203 lk_X7_295 hT2.1.1 rfl (Nat.le_of_ble_eq_true rfl) (Nat.le_of_ble_eq_true rfl) (by omega) (c_M_isDigit hT2 hB (by omega) (i := b) (by omega)) (fun h_203 x_203 q_203 => ?_)
        obtain ⟨e_203, f_203⟩ := q_203
        rw [e_203, f_203]
        refine bx_if_eq_f (pc := 206) (tgt := 311) dX7_nextToken_206 (by decide) (by rw [decide_eq_true h2_]; decide) ?_
        refine ex_aload_n (pc := 209) dX7_nextToken_209 rfl ?_
        refine ex_iconst (pc := 210) (v := (nI 0)) dX7_nextToken_210 (by decide) ?_
        refine ex_put (pc := 211) dX7_nextToken_211 fp_X7_298 hT2.1.1 (Nat.le_of_ble_eq_true rfl) rfl rfl ?_
        rw [mo_19]
        exact c_M_nt_d hB htl hb h2_ hτ l2 hd (tl - b) b _ _ (hT2.z (z' := upd (upd z1 16 (nI b)) 19 (nI 0)) (upd_ne (by decide))) (zk2.up (by omega) (by omega)) ((upd_ne (by decide)).trans h16) ((upd_ne (by decide)).trans h17') ((hF.tr (FrX.st rfl (nscr (by omega)))).tr (FrX.st rfl (nscr (by omega)))) (Nat.le_refl _) (rn_1 hb h2_ (by decide)) (by rw [upd_eq, Nat.sub_self]; rfl) (by omega)
      · skip
        refine ex_aload_n (pc := 90) dX7_nextToken_90 rfl ?_
        refine ex_aload_n (pc := 91) dX7_nextToken_91 rfl ?_
        refine ex_get (pc := 92) dX7_nextToken_92 fl_X7_280 hT1.1.1 rfl ?_
        rw [h17]
        refine ex_put (pc := 95) dX7_nextToken_95 fp_X7_286 hT1.1.1 (Nat.le_of_ble_eq_true rfl) rfl rfl ?_
        rw [mo_16]
        have hT2 := hT1.z (z' := upd z1 16 (nI b)) (upd_ne (by decide))
        have zk2 : zK z (upd z1 16 (nI b)) := zk.up (by omega) (by omega)
        have h16 : upd z1 16 (nI b) 16 = nI b := upd_eq
        have h17' : upd z1 16 (nI b) 17 = nI b := (upd_ne (by decide)).trans h17
        refine ex_aload_n (pc := 98) dX7_nextToken_98 rfl ?_
        refine ex_get (pc := 99) dX7_nextToken_99 fl_X7_286 hT2.1.1 rfl ?_
        refine ex_aload_n (pc := 102) dX7_nextToken_102 rfl ?_
        refine ex_get (pc := 103) dX7_nextToken_103 fl_X7_268 hT2.1.1 rfl ?_
        rw [h16, hT2.2.2.1]
        refine bx_icmp_ne_t (pc := 106) (tgt := 117) dX7_nextToken_106 (by decide) (fun z => absurd ((nI_eq (by omega) (by omega)).mp z) (by omega)) ?_
        refine ex_aload_n (pc := 117) dX7_nextToken_117 rfl ?_
        refine ex_aload_n (pc := 118) dX7_nextToken_118 rfl ?_
        refine ex_get (pc := 119) dX7_nextToken_119 fl_X7_286 hT2.1.1 rfl ?_
        rw [h16]
        refine cx_VL1i (pc := 122) dX7_nextToken_122 lk_X7_289 hT2.1.1 rfl (Nat.le_of_ble_eq_true rfl) (Nat.le_of_ble_eq_true rfl) (by omega) (c_M_isLetter hT2 hB (by omega) (i := b) (by omega)) (fun h_122 x_122 q_122 => ?_)
        obtain ⟨e_122, f_122⟩ := q_122
        rw [e_122, f_122]
        refine bx_if_eq_t (pc := 125) (tgt := 198) dX7_nextToken_125 (by decide) (by rw [decide_eq_false h1_]; rfl) ?_
        refine ex_aload_n (pc := 198) dX7_nextToken_198 rfl ?_
        refine ex_aload_n (pc := 199) dX7_nextToken_199 rfl ?_
        refine ex_get (pc := 200) dX7_nextToken_200 fl_X7_286 hT2.1.1 rfl ?_
        rw [h16]
        refine cx_VL1i (pc := 203) dX7_nextToken_203 lk_X7_295 hT2.1.1 rfl (Nat.le_of_ble_eq_true rfl) (Nat.le_of_ble_eq_true rfl) (by omega) (c_M_isDigit hT2 hB (by omega) (i := b) (by omega)) (fun h_203 x_203 q_203 => ?_)
        obtain ⟨e_203, f_203⟩ := q_203
        rw [e_203, f_203]
        refine bx_if_eq_t (pc := 206) (tgt := 311) dX7_nextToken_206 (by decide) (by rw [decide_eq_false h2_]; rfl) ?_
        refine ex_aload_n (pc := 311) dX7_nextToken_311 rfl ?_
        refine ex_iconst (pc := 312) (v := (nI 3)) dX7_nextToken_312 (by decide) ?_
        refine ex_put (pc := 313) dX7_nextToken_313 fp_X7_283 hT2.1.1 (Nat.le_of_ble_eq_true rfl) rfl rfl ?_
        rw [mo_18]
        have hT3 := hT2.z (z' := upd (upd z1 16 (nI b)) 18 (nI 3)) (upd_ne (by decide))
        refine ex_aload_n (pc := 316) dX7_nextToken_316 rfl ?_
        refine ex_aload_n (pc := 317) dX7_nextToken_317 rfl ?_
        refine ex_get (pc := 318) dX7_nextToken_318 fl_X7_50 hT3.1.1 rfl ?_
        refine ex_aload_n (pc := 321) dX7_nextToken_321 rfl ?_
        refine ex_get (pc := 322) dX7_nextToken_322 fl_X7_286 hT3.1.1 rfl ?_
        rw [upd_ne (by decide), h16]
        refine ex_ildn (k := b) (pc := 325) dX7_nextToken_325 hT3.2.1 rfl (by omega) (by decide) ?_
        rw [(hB b).1]
        refine ex_put (pc := 326) dX7_nextToken_326 fp_X7_292 hT3.1.1 (Nat.le_of_ble_eq_true rfl) rfl rfl ?_
        rw [mo_20]
        have hT4 := hT3.z (z' := upd (upd (upd z1 16 (nI b)) 18 (nI 3)) 20 (nI (tb b))) (upd_ne (by decide))
        refine ex_aload_n (pc := 329) dX7_nextToken_329 rfl ?_
        refine ex_dup (pc := 330) dX7_nextToken_330 rfl ?_
        refine ex_get (pc := 331) dX7_nextToken_331 fl_X7_280 hT4.1.1 rfl ?_
        rw [upd_ne (by decide), upd_ne (by decide), h17']
        refine ex_iconst (pc := 334) (v := (nI 1)) dX7_nextToken_334 (by decide) ?_
        refine ex_iadd (pc := 335) dX7_nextToken_335 ?_
        refine ex_put (pc := 336) dX7_nextToken_336 fp_X7_280 hT4.1.1 (Nat.le_of_ble_eq_true rfl) rfl rfl ?_
        rw [mo_17, nI_add]
        refine ex_vret dX7_nextToken_339 rfl ?_
        have h0 : srt tb tl b = 0 := by have := srt_3 tb tl b; omega
        refine qv_mk ⟨_, hT4.z (z' := upd (upd (upd (upd z1 16 (nI b)) 18 (nI 3)) 20 (nI (tb b))) 17 (nI (b + 1))) (upd_ne (by decide)), ((zk2.up (by omega) (by omega)).up (by omega) (by omega)).up (by omega) (by omega), ?_, ((((hF.tr (FrX.st rfl (nscr (by omega)))).tr (FrX.st rfl (nscr (by omega)))).tr (FrX.st rfl (nscr (by omega)))).tr (FrX.st rfl (nscr (by omega))))⟩
        refine ⟨?_, fun z => by omega, fun _ => ⟨?_, fun _ => ⟨?_, ?_⟩, fun z => by omega, fun z => by omega⟩⟩
        · rw [upd_ne (by decide), upd_ne (by decide), upd_ne (by decide), h16]
        · rw [upd_eq]; unfold enT; rw [if_pos h0]
        · rw [upd_ne (by decide), upd_ne (by decide), upd_eq]
        · rw [upd_ne (by decide), upd_eq]
  · obtain rfl : b = tl := by omega
    refine ex_aload_n (pc := 90) dX7_nextToken_90 rfl ?_
    refine ex_aload_n (pc := 91) dX7_nextToken_91 rfl ?_
    refine ex_get (pc := 92) dX7_nextToken_92 fl_X7_280 hT1.1.1 rfl ?_
    rw [h17]
    refine ex_put (pc := 95) dX7_nextToken_95 fp_X7_286 hT1.1.1 (Nat.le_of_ble_eq_true rfl) rfl rfl ?_
    rw [mo_16]
    have hT2 := hT1.z (z' := upd z1 16 (nI b)) (upd_ne (by decide))
    have zk2 : zK z (upd z1 16 (nI b)) := zk.up (by omega) (by omega)
    have h16 : upd z1 16 (nI b) 16 = nI b := upd_eq
    have h17' : upd z1 16 (nI b) 17 = nI b := (upd_ne (by decide)).trans h17
    refine ex_aload_n (pc := 98) dX7_nextToken_98 rfl ?_
    refine ex_get (pc := 99) dX7_nextToken_99 fl_X7_286 hT2.1.1 rfl ?_
    refine ex_aload_n (pc := 102) dX7_nextToken_102 rfl ?_
    refine ex_get (pc := 103) dX7_nextToken_103 fl_X7_268 hT2.1.1 rfl ?_
    rw [h16, hT2.2.2.1]
    refine bx_icmp_ne_f (pc := 106) (tgt := 117) dX7_nextToken_106 (by decide) (rfl) ?_
    refine ex_aload_n (pc := 109) dX7_nextToken_109 rfl ?_
    refine ex_iconst (pc := 110) (v := (nI 0)) dX7_nextToken_110 (by decide) ?_
    refine ex_put (pc := 111) dX7_nextToken_111 fp_X7_283 hT2.1.1 (Nat.le_of_ble_eq_true rfl) rfl rfl ?_
    rw [mo_18]
    refine ex_goto (pc := 114) (tgt := 339) dX7_nextToken_114 (by decide) ?_
    refine ex_vret dX7_nextToken_339 rfl ?_
    refine qv_mk ⟨_, hT2.z (z' := upd (upd z1 16 (nI b)) 18 (nI 0)) (upd_ne (by decide)), zk2.up (by omega) (by omega), ?_, ((hF.tr (FrX.st rfl (nscr (by omega)))).tr (FrX.st rfl (nscr (by omega))))⟩
    exact ⟨(upd_ne (by decide)).trans h16, fun _ => upd_eq, fun z => absurd z (Nat.lt_irrefl _)⟩
set_option maxHeartbeats 4000000 in
set_option maxRecDepth 100000 in
theorem c_M_nt_b {g : Gl} {d ks : Nat} {h : AH} {z s tf : Nat → Int32} {tb : Nat → Nat} {tl p : Nat} (hB : TpOk tf tb) (htl : tl ≤ 96) (hp : p ≤ tl) {τ : Nat} (h0 : τ = 0 → ¬ (0 < p ∧ ¬ srt tb tl (p - 1) = 0)) (h1_ : τ = 1 → (0 < p ∧ ¬ srt tb tl (p - 1) = 0)) (hτ : τ < 2) (hd : 2 ≤ d) {h1 : AH} {z1 : Nat → Int32} (hT1 : TpM g h1 z1 s tf tl) (zk : zK z z1) (h17 : z1 17 = nI (bgT tb tl p)) (hF : FrX c75 g h h1) : Ex g mX7_nextToken d 0 ks 72 [some (.ref (g.1 + 75)), some (.int (nI τ)), some (.int (nI p))] [] h1 (qv (fun h' => ∃ z', TpM g h' z' s tf tl ∧ zK z z' ∧ tkZ tb tl (bgT tb tl p) z' ∧ FrX c75 g h h')) := by
  rcases (show τ = 0 ∨ τ = 1 by omega) with rfl | rfl
  · skip
    refine ex_iload_n (pc := 72) dX7_nextToken_72 rfl ?_
    refine bx_if_eq_t (pc := 73) (tgt := 88) dX7_nextToken_73 (by decide) (rfl) ?_
    refine ex_iconst (pc := 88) (v := (nI 0)) dX7_nextToken_88 (by decide) ?_
    refine sx_istore_n (pc := 89) dX7_nextToken_89 rfl (by decide) ?_
    show Ex _ _ _ _ _ _ [_, _, _] _ _ _
    exact c_M_nt_c hB htl (bg_rng hp).2 (τ := 0) ⟨fun z => absurd ⟨gl_bg hp z ▸ z.1, gl_bg hp z ▸ z.2⟩ (h0 rfl), fun _ => rfl⟩ _ hd hT1 zk h17 hF
  · by_cases hbp : bgT tb tl p = p
    · skip
      refine ex_iload_n (pc := 72) dX7_nextToken_72 rfl ?_
      refine bx_if_eq_f (pc := 73) (tgt := 88) dX7_nextToken_73 (by decide) (by decide) ?_
      refine ex_iload_n (pc := 76) dX7_nextToken_76 rfl ?_
      refine ex_aload_n (pc := 77) dX7_nextToken_77 rfl ?_
      refine ex_get (pc := 78) dX7_nextToken_78 fl_X7_280 hT1.1.1 rfl ?_
      refine bx_icmp_ne_f (pc := 81) (tgt := 88) dX7_nextToken_81 (by decide) (by rw [h17, hbp]) ?_
      refine ex_iconst (pc := 84) (v := (nI 1)) dX7_nextToken_84 (by decide) ?_
      refine ex_goto (pc := 85) (tgt := 89) dX7_nextToken_85 (by decide) ?_
      refine sx_istore_n (pc := 89) dX7_nextToken_89 rfl (by decide) ?_
      show Ex _ _ _ _ _ _ [_, _, _] _ _ _
      exact c_M_nt_c hB htl (bg_rng hp).2 (τ := 1) ⟨fun _ => rfl, fun z => absurd (hbp.symm ▸ h1_ rfl) z⟩ _ hd hT1 zk h17 hF
    · skip
      refine ex_iload_n (pc := 72) dX7_nextToken_72 rfl ?_
      refine bx_if_eq_f (pc := 73) (tgt := 88) dX7_nextToken_73 (by decide) (by decide) ?_
      refine ex_iload_n (pc := 76) dX7_nextToken_76 rfl ?_
      refine ex_aload_n (pc := 77) dX7_nextToken_77 rfl ?_
      refine ex_get (pc := 78) dX7_nextToken_78 fl_X7_280 hT1.1.1 rfl ?_
      refine bx_icmp_ne_t (pc := 81) (tgt := 88) dX7_nextToken_81 (by decide) (by rw [h17]; exact fun z => hbp ((nI_eq (by have := (bg_rng (tb := tb) hp).2; omega) (by omega)).mp z.symm)) ?_
      refine ex_iconst (pc := 88) (v := (nI 0)) dX7_nextToken_88 (by decide) ?_
      refine sx_istore_n (pc := 89) dX7_nextToken_89 rfl (by decide) ?_
      show Ex _ _ _ _ _ _ [_, _, _] _ _ _
      exact c_M_nt_c hB htl (bg_rng hp).2 (τ := 0) ⟨fun z => absurd (gl_bg hp z) hbp, fun _ => rfl⟩ _ hd hT1 zk h17 hF
set_option maxHeartbeats 4000000 in
set_option maxRecDepth 100000 in
theorem c_M_nt_a {g : Gl} {d ks : Nat} {h : AH} {z s tf : Nat → Int32} {tb : Nat → Nat} {tl p : Nat} (hB : TpOk tf tb) (htl : tl ≤ 96) (hp : p ≤ tl) {τ : Nat} (h0 : τ = 0 → ¬ (0 < p ∧ ¬ srt tb tl (p - 1) = 0)) (h1_ : τ = 1 → (0 < p ∧ ¬ srt tb tl (p - 1) = 0)) (hτ : τ < 2) (hd : 2 ≤ d) : ∀ (m q : Nat) (h1 : AH) (z1 : Nat → Int32), TpM g h1 z1 s tf tl → zK z z1 → z1 17 = nI q → FrX c75 g h h1 → skp tb m q = bgT tb tl p → q + m = tl → Ex g mX7_nextToken d 0 ks 34 [some (.ref (g.1 + 75)), some (.int (nI τ)), some (.int (nI p))] [] h1 (qv (fun h' => ∃ z', TpM g h' z' s tf tl ∧ zK z z' ∧ tkZ tb tl (bgT tb tl p) z' ∧ FrX c75 g h h')) := by
  intro m
  induction m with
  | zero =>
    intro q h1 z1 hT1 zk h17 hF hq hm
    replace hq : q = bgT tb tl p := hq
    refine ex_aload_n (pc := 34) dX7_nextToken_34 rfl ?_
    refine ex_get (pc := 35) dX7_nextToken_35 fl_X7_280 hT1.1.1 rfl ?_
    refine ex_aload_n (pc := 38) dX7_nextToken_38 rfl ?_
    refine ex_get (pc := 39) dX7_nextToken_39 fl_X7_268 hT1.1.1 rfl ?_
    refine bx_icmp_ge_t (pc := 42) (tgt := 72) dX7_nextToken_42 (by decide) (by rw [h17, hT1.2.2.1]; exact nI_le (by omega) (by omega)) ?_
    exact c_M_nt_b hB htl hp h0 h1_ hτ hd hT1 zk (by rw [h17, hq]) hF
  | succ m ih =>
    intro q h1 z1 hT1 zk h17 hF hq hm
    refine ex_aload_n (pc := 34) dX7_nextToken_34 rfl ?_
    refine ex_get (pc := 35) dX7_nextToken_35 fl_X7_280 hT1.1.1 rfl ?_
    refine ex_aload_n (pc := 38) dX7_nextToken_38 rfl ?_
    refine ex_get (pc := 39) dX7_nextToken_39 fl_X7_268 hT1.1.1 rfl ?_
    refine bx_icmp_ge_f (pc := 42) (tgt := 72) dX7_nextToken_42 (by decide) (by rw [h17, hT1.2.2.1]; exact nI_ge (by omega) (by omega)) ?_
    refine ex_aload_n (pc := 45) dX7_nextToken_45 rfl ?_
    refine ex_get (pc := 46) dX7_nextToken_46 fl_X7_50 hT1.1.1 rfl ?_
    refine ex_aload_n (pc := 49) dX7_nextToken_49 rfl ?_
    refine ex_get (pc := 50) dX7_nextToken_50 fl_X7_280 hT1.1.1 rfl ?_
    rw [h17]
    refine ex_ildn (k := q) (pc := 53) dX7_nextToken_53 hT1.2.1 rfl (by omega) (by decide) ?_
    rw [(hB q).1]
    refine ex_bipush (pc := 54) (v := (nI 32)) dX7_nextToken_54 (by decide) ?_
    refine ex_icmp_ne (pc := 56) (tgt := 72) dX7_nextToken_56 (by decide) (fun c_56 => ?_) (fun c_56 => ?_)
    · skip
      have k32 : ¬ tb q = 32 := fun z => c_56 (by rw [z])
      rw [skp, if_neg k32] at hq
      exact c_M_nt_b hB htl hp h0 h1_ hτ hd hT1 zk (by rw [h17, hq]) hF
    · skip
      have k32 : tb q = 32 := (nI_eq (by have := (hB q).2; omega) (by omega)).mp c_56
      rw [skp, if_pos k32] at hq
      refine ex_aload_n (pc := 59) dX7_nextToken_59 rfl ?_
      refine ex_dup (pc := 60) dX7_nextToken_60 rfl ?_
      refine ex_get (pc := 61) dX7_nextToken_61 fl_X7_280 hT1.1.1 rfl ?_
      rw [h17]
      refine ex_iconst (pc := 64) (v := (nI 1)) dX7_nextToken_64 (by decide) ?_
      refine ex_iadd (pc := 65) dX7_nextToken_65 ?_
      refine ex_put (pc := 66) dX7_nextToken_66 fp_X7_280 hT1.1.1 (Nat.le_of_ble_eq_true rfl) rfl rfl ?_
      rw [mo_17, nI_add]
      refine ex_goto (pc := 69) (tgt := 34) dX7_nextToken_69 (by decide) ?_
      exact ih (q + 1) _ _ (hT1.z (upd_ne (by decide))) (zk.up (by omega) (by omega)) upd_eq (hF.tr (FrX.st rfl (nscr (by omega)))) hq (by omega)
set_option maxHeartbeats 4000000 in
set_option maxRecDepth 100000 in
theorem c_M_nextToken {g : Gl} {d ks : Nat} {h : AH} {z s tf : Nat → Int32} {tb : Nat → Nat} {tl p : Nat} (hT : TpM g h z s tf tl) (hB : TpOk tf tb) (hp : p ≤ tl) (h17 : z 17 = nI p) (hk : (0 < p ∧ (z 18 = nI 1 ∨ z 18 = nI 2)) ↔ (0 < p ∧ ¬ srt tb tl (p - 1) = 0)) (hd : 2 ≤ d) : Ex g mX7_nextToken d 0 ks 0 [some (.ref (g.1 + 75)), none, none] [] h (qv (fun h' => ∃ z', TpM g h' z' s tf tl ∧ zK z z' ∧ tkZ tb tl (bgT tb tl p) z' ∧ FrX c75 g h h')) := by
  have htl := hT.2.2.2
  refine ex_aload_n (pc := 0) dX7_nextToken_0 rfl ?_
  refine ex_get (pc := 1) dX7_nextToken_1 fl_X7_280 hT.1.1 rfl ?_
  refine ex_if_le (pc := 4) (tgt := 27) dX7_nextToken_4 (by decide) (fun c_4 => ?_) (fun c_4 => ?_)
  · skip
    refine ex_iconst (pc := 27) (v := (nI 0)) dX7_nextToken_27 (by decide) ?_
    refine sx_istore_n (pc := 28) dX7_nextToken_28 rfl (by decide) ?_
    show Ex _ _ _ _ _ _ [_, _, _] _ _ _
    refine ex_aload_n (pc := 29) dX7_nextToken_29 rfl ?_
    refine ex_get (pc := 30) dX7_nextToken_30 fl_X7_280 hT.1.1 rfl ?_
    rw [h17]
    refine sx_istore_n (pc := 33) dX7_nextToken_33 rfl (by decide) ?_
    show Ex _ _ _ _ _ _ [_, _, _] _ _ _
    exact c_M_nt_a (τ := 0) hB hT.2.2.2 hp (fun _ z => absurd c_4 (by rw [h17]; exact nI_nle z.1 (by omega))) (fun z => absurd z (by decide)) (by decide) hd (tl - p) p _ _ hT zK.rf h17 FrX.rf rfl (by omega)
  · skip
    refine ex_aload_n (pc := 7) dX7_nextToken_7 rfl ?_
    refine ex_get (pc := 8) dX7_nextToken_8 fl_X7_283 hT.1.1 rfl ?_
    refine ex_iconst (pc := 11) (v := (nI 1)) dX7_nextToken_11 (by decide) ?_
    refine ex_icmp_eq (pc := 12) (tgt := 23) dX7_nextToken_12 (by decide) (fun c_12 => ?_) (fun c_12 => ?_)
    · skip
      refine ex_iconst (pc := 23) (v := (nI 1)) dX7_nextToken_23 (by decide) ?_
      refine ex_goto (pc := 24) (tgt := 28) dX7_nextToken_24 (by decide) ?_
      refine sx_istore_n (pc := 28) dX7_nextToken_28 rfl (by decide) ?_
      show Ex _ _ _ _ _ _ [_, _, _] _ _ _
      refine ex_aload_n (pc := 29) dX7_nextToken_29 rfl ?_
      refine ex_get (pc := 30) dX7_nextToken_30 fl_X7_280 hT.1.1 rfl ?_
      rw [h17]
      refine sx_istore_n (pc := 33) dX7_nextToken_33 rfl (by decide) ?_
      show Ex _ _ _ _ _ _ [_, _, _] _ _ _
      exact c_M_nt_a (τ := 1) hB hT.2.2.2 hp (fun z => absurd z (by decide)) (fun _ => hk.mp ⟨Nat.pos_of_ne_zero (fun z => c_4 (by rw [h17, z]; decide)), Or.inl c_12⟩) (by decide) hd (tl - p) p _ _ hT zK.rf h17 FrX.rf rfl (by omega)
    · skip
      refine ex_aload_n (pc := 15) dX7_nextToken_15 rfl ?_
      refine ex_get (pc := 16) dX7_nextToken_16 fl_X7_283 hT.1.1 rfl ?_
      refine ex_iconst (pc := 19) (v := (nI 2)) dX7_nextToken_19 (by decide) ?_
      refine ex_icmp_ne (pc := 20) (tgt := 27) dX7_nextToken_20 (by decide) (fun c_20 => ?_) (fun c_20 => ?_)
      · skip
        refine ex_iconst (pc := 27) (v := (nI 0)) dX7_nextToken_27 (by decide) ?_
        refine sx_istore_n (pc := 28) dX7_nextToken_28 rfl (by decide) ?_
        show Ex _ _ _ _ _ _ [_, _, _] _ _ _
        refine ex_aload_n (pc := 29) dX7_nextToken_29 rfl ?_
        refine ex_get (pc := 30) dX7_nextToken_30 fl_X7_280 hT.1.1 rfl ?_
        rw [h17]
        refine sx_istore_n (pc := 33) dX7_nextToken_33 rfl (by decide) ?_
        show Ex _ _ _ _ _ _ [_, _, _] _ _ _
        exact c_M_nt_a (τ := 0) hB hT.2.2.2 hp (fun _ z => (hk.mpr z).2.elim c_12 c_20) (fun z => absurd z (by decide)) (by decide) hd (tl - p) p _ _ hT zK.rf h17 FrX.rf rfl (by omega)
      · skip
        refine ex_iconst (pc := 23) (v := (nI 1)) dX7_nextToken_23 (by decide) ?_
        refine ex_goto (pc := 24) (tgt := 28) dX7_nextToken_24 (by decide) ?_
        refine sx_istore_n (pc := 28) dX7_nextToken_28 rfl (by decide) ?_
        show Ex _ _ _ _ _ _ [_, _, _] _ _ _
        refine ex_aload_n (pc := 29) dX7_nextToken_29 rfl ?_
        refine ex_get (pc := 30) dX7_nextToken_30 fl_X7_280 hT.1.1 rfl ?_
        rw [h17]
        refine sx_istore_n (pc := 33) dX7_nextToken_33 rfl (by decide) ?_
        show Ex _ _ _ _ _ _ [_, _, _] _ _ _
        exact c_M_nt_a (τ := 1) hB hT.2.2.2 hp (fun z => absurd z (by decide)) (fun _ => hk.mp ⟨Nat.pos_of_ne_zero (fun z => c_4 (by rw [h17, z]; decide)), Or.inr c_20⟩) (by decide) hd (tl - p) p _ _ hT zK.rf h17 FrX.rf rfl (by omega)

/-! the reference reads a text -/
def stA (tl : Nat) (ts : List Tkn) : Nat := match ts with
  | [] => tl
  | t :: _ => t.1
theorem TkM_b {tf : Nat → Int32} {tb : Nat → Nat} {tl ky : Nat} {z : Nat → Int32} {ts : List Tkn} (hB : TpOk tf tb) (h : TkM tb tl ky z ts) : z 16 = nI (stA tl ts) ∧ (z 18 = 0 ↔ ts = []) := by
  cases ts with
  | nil => exact ⟨(TkM_0 h).2, fun _ => rfl, fun _ => (TkM_0 h).1⟩
  | cons t r =>
    obtain ⟨hs, h16, -⟩ := TkM_s hB h
    refine ⟨h16, fun q => ?_, fun q => by cases q⟩
    exfalso
    rcases hs with ⟨-, a, -⟩ | ⟨-, a, -⟩ | ⟨-, a, -⟩ | ⟨-, a | ⟨a, -⟩⟩ <;> (rw [a] at q; exact absurd q (by decide))
def okT (k : Nat) (ts : List Tkn) : Prop := k < 3 ∧ (prG ts).1 = true ∧ (prG ts).2.1 = []
def plT (tb : Nat → Nat) (tl k : Nat) (ts : List Tkn) : Nat := if k < 3 then stA tl (prG ts).2.1 else bgT tb tl 0
def zT (z z' : Nat → Int32) : Prop := ∀ k, (k < 15 ∨ 25 < k) → z' k = z k
/-- what the reading of a text leaves -/
def RdM (g : Gl) (s tf : Nat → Int32) (tb : Nat → Nat) (tl la k : Nat) (ts : List Tkn) (h : AH) (z : Nat → Int32) (h' : AH) (r : Int32) : Prop := ∃ z' s', Ms g h' z' s' ∧ zT z z' ∧ z' 15 = nI 0 ∧ FrX c7576 g h h' ∧ (∃ A : List Stq, A.length ≤ 96 ∧ s' = wrA s la A ∧ (okT k ts → A = (prG ts).2.2)) ∧ (okT k ts → r = nI k ∧ z' 23 = nI (prG ts).2.2.length ∧ z' 25 = nI (lvs (prG ts).2.2)) ∧ (¬ okT k ts → r = -1 ∧ z' 16 = nI (plT tb tl k ts))
theorem bg_ng {tb : Nat → Nat} {tl : Nat} : ¬ glT tb tl (bgT tb tl 0) := fun q => by
  have e := gl_bg (Nat.zero_le _) q
  have := q.1
  omega
theorem ky_s {tb : Nat → Nat} {tl b : Nat} (h : kyv tb tl b < 3) : b < tl ∧ srt tb tl b = 1 := by
  unfold kyv at h
  by_cases e : srt tb tl b = 1
  · exact ⟨(srt_1.mp e).1, e⟩
  · rw [if_neg e] at h; omega
theorem kyI_n {k : Nat} (h : k < 3) : ¬ kyI k < 0 ∧ 0 ≤ kyI k ∧ kyI k = nI k := by
  rcases (show k = 0 ∨ k = 1 ∨ k = 2 by omega) with q | q | q <;> subst q <;> decide
theorem wrA_lo {s : Nat → Int32} {la k : Nat} {A : List Stq} (h : k < la) : wrA s la A k = s k := by
  unfold wrA
  rw [if_neg (by omega)]
def laT (nt : Nat) : Nat := if nt < 14 then 90 + 200 * nt + 4 else 2890
set_option maxHeartbeats 4000000 in
set_option maxRecDepth 100000 in
theorem c_M_parseB {g : Gl} {d ks : Nat} {h : AH} {s tf z : Nat → Int32} {tb : Nat → Nat} {tl la : Nat} (hB : TpOk tf tb) (hla : la + 194 ≤ 3090) {ts : List Tkn} (hts : kyv tb tl (bgT tb tl 0) < 3 → TkL tb tl (kyv tb tl (bgT tb tl 0)) (enT tb tl (bgT tb tl 0)) ts ∧ ts.length ≤ 96) (hd : 70 ≤ d) {h1 : AH} {z1 : Nat → Int32} (hT : TpM g h1 z1 s tf tl) (hz : zT z z1) (hF : FrX c7576 g h h1) (h17 : z1 17 = nI 0) (h18 : z1 18 = nI 3) (h21 : z1 21 = nI 0) (h22 : z1 22 = nI 0) (h23 : z1 23 = nI 0) (h24 : z1 24 = nI la) (h25 : z1 25 = nI 0) (l1 l2 : Option Value) : Ex g mX7_parse d 0 ks 63 [some (.ref (g.1 + 75)), l1, l2] [] h1 (qi (RdM g s tf tb tl la (kyv tb tl (bgT tb tl 0)) ts h z)) := by
  have htl := hT.2.2.2
  by_cases hk : kyv tb tl (bgT tb tl 0) < 3
  · obtain ⟨hl, hl96⟩ := hts hk
    obtain ⟨hbl, hs1⟩ := ky_s hk
    cases hx : (pr (8 * ts.length + 8) 1 ts 0 0).1 with
    | false =>
      refine ex_aload_n (pc := 63) dX7_parse_63 rfl ?_
      refine cx_VL0v (pc := 64) dX7_parse_64 lk_X7_320 hT.1.1 rfl (Nat.le_of_ble_eq_true rfl) (Nat.le_of_ble_eq_true rfl) (by omega) (c_M_nextToken hT hB (p := 0) (Nat.zero_le _) h17 (by omega) (by omega)) (fun h_64 q_64 => ?_)
      obtain ⟨z2, t2, k2, y2, f2⟩ := q_64
      have hy1 := ((ky_z y2 (bg_rng (Nat.zero_le _)).2 bg_ng).1).mpr hs1
      have hy3 := (ky_z y2 (bg_rng (Nat.zero_le _)).2 bg_ng).2 hy1
      refine ex_aload_n (pc := 67) dX7_parse_67 rfl ?_
      refine cx_VL0i (pc := 68) dX7_parse_68 lk_X7_357 t2.1.1 rfl (Nat.le_of_ble_eq_true rfl) (Nat.le_of_ble_eq_true rfl) (by omega) (c_M_key t2 hB y2 (bg_rng (Nat.zero_le _)).2 bg_ng (by omega)) (fun h_68 x_68 q_68 => ?_)
      obtain ⟨e_68, f_68⟩ := q_68
      rw [e_68, f_68]
      rw [(kyI_n hk).2.2]
      refine sx_istore_n (pc := 71) dX7_parse_71 rfl (by decide) ?_
      show Ex _ _ _ _ _ _ [_, _, _] _ _ _
      refine ex_iload_n (pc := 72) dX7_parse_72 rfl ?_
      refine bx_if_lt_f (pc := 73) (tgt := 80) dX7_parse_73 (by decide) (by rw [← (kyI_n hk).2.2]; exact (kyI_n hk).1) ?_
      refine ex_iconst (pc := 76) (v := (nI 1)) dX7_parse_76 (by decide) ?_
      refine ex_goto (pc := 77) (tgt := 81) dX7_parse_77 (by decide) ?_
      refine sx_istore_n (pc := 81) dX7_parse_81 rfl (by decide) ?_
      show Ex _ _ _ _ _ _ [_, _, _] _ _ _
      refine ex_iload_n (pc := 82) dX7_parse_82 rfl ?_
      refine bx_if_eq_f (pc := 83) (tgt := 111) dX7_parse_83 (by decide) (by decide) ?_
      refine ex_aload_n (pc := 86) dX7_parse_86 rfl ?_
      refine cx_VL0v (pc := 87) dX7_parse_87 lk_X7_320 t2.1.1 rfl (Nat.le_of_ble_eq_true rfl) (Nat.le_of_ble_eq_true rfl) (by omega) (c_M_nextToken t2 hB (p := enT tb tl (bgT tb tl 0)) hy3.2.2 hy3.1 (by rw [hy1, en_last hbl, hs1]; exact ⟨fun _ => ⟨by omega, by decide⟩, fun _ => ⟨by omega, Or.inl rfl⟩⟩) (by omega)) (fun h_87 q_87 => ?_)
      obtain ⟨z3, t3, k3, y3, f3⟩ := q_87
      have tk3 := TkM_nx hy3.2.2 y3 hl
      have hP3 : PS g _ z3 s tf tl la [] := ⟨by rw [wrA_nil]; exact t3, by rw [k3 23 (by omega), k2 23 (by omega)]; exact h23, by rw [k3 24 (by omega), k2 24 (by omega)]; exact h24, by rw [k3 25 (by omega), k2 25 (by omega)]; exact h25⟩
      refine ex_aload_n (pc := 90) dX7_parse_90 rfl ?_
      refine ex_iload_n (pc := 91) dX7_parse_91 rfl ?_
      refine cx_VL1i (pc := 92) dX7_parse_92 lk_X7_351 t3.1.1 rfl (Nat.le_of_ble_eq_true rfl) (Nat.le_of_ble_eq_true rfl) (by omega) ((ct_all hB hla hk (8 * ts.length + 8) (8 * ts.length + 8) (Nat.le_refl _)).1 (d - 1) 0 ts 0 0 [] _ z3 hP3 tk3 (by rw [k3 21 (by omega), k2 21 (by omega)]; exact h21) (by rw [k3 22 (by omega), k2 22 (by omega)]; exact h22) (by omega) (by omega) (by simp only [List.length_nil]; omega) (by unfold nee; rw [if_pos (by omega)]; omega) (by unfold frm; omega)) (fun h_92 x_92 q_92 => ?_)
      obtain ⟨z4, zp4, tk4, f4, ok4, no4⟩ := q_92
      have hb4 := TkM_b hB tk4
      refine bx_if_eq_t (pc := 95) (tgt := 109) dX7_parse_95 (by decide) ((no4 hx).1) ?_
      refine ex_iconst (pc := 109) (v := (nI 0)) dX7_parse_109 (by decide) ?_
      refine sx_istore_n (pc := 110) dX7_parse_110 rfl (by decide) ?_
      show Ex _ _ _ _ _ _ [_, _, _] _ _ _
      refine ex_aload_n (pc := 111) dX7_parse_111 rfl ?_
      refine ex_iconst (pc := 112) (v := (nI 0)) dX7_parse_112 (by decide) ?_
      refine ex_put (pc := 113) dX7_parse_113 fp_X7_268 (no4 hx).2.choose_spec.2.1.1 (Nat.le_of_ble_eq_true rfl) rfl rfl ?_
      rw [mo_15]
      refine ex_iload_n (pc := 116) dX7_parse_116 rfl ?_
      refine bx_if_eq_t (pc := 117) (tgt := 124) dX7_parse_117 (by decide) (rfl) ?_
      refine ex_iconst (pc := 124) (v := (-1)) dX7_parse_124 (by decide) ?_
      refine ex_ret dX7_parse_125 rfl ?_
      have hno : ¬ okT (kyv tb tl (bgT tb tl 0)) ts := fun q => by have q1 : (pr (8 * ts.length + 8) 1 ts 0 0).1 = true := q.2.1; rw [hx] at q1; exact absurd q1 (by decide)
      obtain ⟨-, A', hA', hT'⟩ := no4 hx
      refine qi_mk ⟨upd z4 15 (nI 0), _, ⟨gs_eq hT'.1.1, gs_ne (by decide) hT'.1.2⟩, fun k hk' => by rw [upd_ne (by omega), zp4 k (by omega), k3 k (by omega), k2 k (by omega)]; exact hz k hk', upd_eq, (((hF.tr (c75_76 f2)).tr (c75_76 f3)).tr f4).tr (FrX.st (Or.inl rfl) (nscr (by omega))), ⟨A', hA', rfl, fun q => absurd q hno⟩, fun q => absurd q hno, fun _ => ⟨rfl, ?_⟩⟩
      rw [upd_ne (by decide), hb4.1, plT, if_pos hk]
      rfl
    | true =>
      refine ex_aload_n (pc := 63) dX7_parse_63 rfl ?_
      refine cx_VL0v (pc := 64) dX7_parse_64 lk_X7_320 hT.1.1 rfl (Nat.le_of_ble_eq_true rfl) (Nat.le_of_ble_eq_true rfl) (by omega) (c_M_nextToken hT hB (p := 0) (Nat.zero_le _) h17 (by omega) (by omega)) (fun h_64 q_64 => ?_)
      obtain ⟨z2, t2, k2, y2, f2⟩ := q_64
      have hy1 := ((ky_z y2 (bg_rng (Nat.zero_le _)).2 bg_ng).1).mpr hs1
      have hy3 := (ky_z y2 (bg_rng (Nat.zero_le _)).2 bg_ng).2 hy1
      refine ex_aload_n (pc := 67) dX7_parse_67 rfl ?_
      refine cx_VL0i (pc := 68) dX7_parse_68 lk_X7_357 t2.1.1 rfl (Nat.le_of_ble_eq_true rfl) (Nat.le_of_ble_eq_true rfl) (by omega) (c_M_key t2 hB y2 (bg_rng (Nat.zero_le _)).2 bg_ng (by omega)) (fun h_68 x_68 q_68 => ?_)
      obtain ⟨e_68, f_68⟩ := q_68
      rw [e_68, f_68]
      rw [(kyI_n hk).2.2]
      refine sx_istore_n (pc := 71) dX7_parse_71 rfl (by decide) ?_
      show Ex _ _ _ _ _ _ [_, _, _] _ _ _
      refine ex_iload_n (pc := 72) dX7_parse_72 rfl ?_
      refine bx_if_lt_f (pc := 73) (tgt := 80) dX7_parse_73 (by decide) (by rw [← (kyI_n hk).2.2]; exact (kyI_n hk).1) ?_
      refine ex_iconst (pc := 76) (v := (nI 1)) dX7_parse_76 (by decide) ?_
      refine ex_goto (pc := 77) (tgt := 81) dX7_parse_77 (by decide) ?_
      refine sx_istore_n (pc := 81) dX7_parse_81 rfl (by decide) ?_
      show Ex _ _ _ _ _ _ [_, _, _] _ _ _
      refine ex_iload_n (pc := 82) dX7_parse_82 rfl ?_
      refine bx_if_eq_f (pc := 83) (tgt := 111) dX7_parse_83 (by decide) (by decide) ?_
      refine ex_aload_n (pc := 86) dX7_parse_86 rfl ?_
      refine cx_VL0v (pc := 87) dX7_parse_87 lk_X7_320 t2.1.1 rfl (Nat.le_of_ble_eq_true rfl) (Nat.le_of_ble_eq_true rfl) (by omega) (c_M_nextToken t2 hB (p := enT tb tl (bgT tb tl 0)) hy3.2.2 hy3.1 (by rw [hy1, en_last hbl, hs1]; exact ⟨fun _ => ⟨by omega, by decide⟩, fun _ => ⟨by omega, Or.inl rfl⟩⟩) (by omega)) (fun h_87 q_87 => ?_)
      obtain ⟨z3, t3, k3, y3, f3⟩ := q_87
      have tk3 := TkM_nx hy3.2.2 y3 hl
      have hP3 : PS g _ z3 s tf tl la [] := ⟨by rw [wrA_nil]; exact t3, by rw [k3 23 (by omega), k2 23 (by omega)]; exact h23, by rw [k3 24 (by omega), k2 24 (by omega)]; exact h24, by rw [k3 25 (by omega), k2 25 (by omega)]; exact h25⟩
      refine ex_aload_n (pc := 90) dX7_parse_90 rfl ?_
      refine ex_iload_n (pc := 91) dX7_parse_91 rfl ?_
      refine cx_VL1i (pc := 92) dX7_parse_92 lk_X7_351 t3.1.1 rfl (Nat.le_of_ble_eq_true rfl) (Nat.le_of_ble_eq_true rfl) (by omega) ((ct_all hB hla hk (8 * ts.length + 8) (8 * ts.length + 8) (Nat.le_refl _)).1 (d - 1) 0 ts 0 0 [] _ z3 hP3 tk3 (by rw [k3 21 (by omega), k2 21 (by omega)]; exact h21) (by rw [k3 22 (by omega), k2 22 (by omega)]; exact h22) (by omega) (by omega) (by simp only [List.length_nil]; omega) (by unfold nee; rw [if_pos (by omega)]; omega) (by unfold frm; omega)) (fun h_92 x_92 q_92 => ?_)
      obtain ⟨z4, zp4, tk4, f4, ok4, no4⟩ := q_92
      have hb4 := TkM_b hB tk4
      obtain ⟨hr4, hP4, -, -⟩ := ok4 hx
      refine bx_if_eq_f (pc := 95) (tgt := 109) dX7_parse_95 (by decide) (by rw [hr4]; decide) ?_
      refine ex_aload_n (pc := 98) dX7_parse_98 rfl ?_
      refine ex_get (pc := 99) dX7_parse_99 fl_X7_283 hP4.1.1.1 rfl ?_
      refine ex_if_ne (pc := 102) (tgt := 109) dX7_parse_102 (by decide) (fun c_102 => ?_) (fun c_102 => ?_)
      · skip
        refine ex_iconst (pc := 109) (v := (nI 0)) dX7_parse_109 (by decide) ?_
        refine sx_istore_n (pc := 110) dX7_parse_110 rfl (by decide) ?_
        show Ex _ _ _ _ _ _ [_, _, _] _ _ _
        refine ex_aload_n (pc := 111) dX7_parse_111 rfl ?_
        refine ex_iconst (pc := 112) (v := (nI 0)) dX7_parse_112 (by decide) ?_
        refine ex_put (pc := 113) dX7_parse_113 fp_X7_268 hP4.1.1.1 (Nat.le_of_ble_eq_true rfl) rfl rfl ?_
        rw [mo_15]
        refine ex_iload_n (pc := 116) dX7_parse_116 rfl ?_
        refine bx_if_eq_t (pc := 117) (tgt := 124) dX7_parse_117 (by decide) (rfl) ?_
        refine ex_iconst (pc := 124) (v := (-1)) dX7_parse_124 (by decide) ?_
        refine ex_ret dX7_parse_125 rfl ?_
        have hno : ¬ okT (kyv tb tl (bgT tb tl 0)) ts := fun q => c_102 (hb4.2.mpr q.2.2)
        have hT' := hP4.1
        refine qi_mk ⟨upd z4 15 (nI 0), _, ⟨gs_eq hT'.1.1, gs_ne (by decide) hT'.1.2⟩, fun k hk' => by rw [upd_ne (by omega), zp4 k (by omega), k3 k (by omega), k2 k (by omega)]; exact hz k hk', upd_eq, (((hF.tr (c75_76 f2)).tr (c75_76 f3)).tr f4).tr (FrX.st (Or.inl rfl) (nscr (by omega))), ⟨[] ++ (prG ts).2.2, by have := prLen (8 * ts.length + 8) 1 ts 0 0; unfold prG; simp only [List.nil_append]; omega, rfl, fun q => absurd q hno⟩, fun q => absurd q hno, fun _ => ⟨rfl, ?_⟩⟩
        rw [upd_ne (by decide), hb4.1, plT, if_pos hk]
        rfl
      · skip
        refine ex_iconst (pc := 105) (v := (nI 1)) dX7_parse_105 (by decide) ?_
        refine ex_goto (pc := 106) (tgt := 110) dX7_parse_106 (by decide) ?_
        refine sx_istore_n (pc := 110) dX7_parse_110 rfl (by decide) ?_
        show Ex _ _ _ _ _ _ [_, _, _] _ _ _
        refine ex_aload_n (pc := 111) dX7_parse_111 rfl ?_
        refine ex_iconst (pc := 112) (v := (nI 0)) dX7_parse_112 (by decide) ?_
        refine ex_put (pc := 113) dX7_parse_113 fp_X7_268 hP4.1.1.1 (Nat.le_of_ble_eq_true rfl) rfl rfl ?_
        rw [mo_15]
        refine ex_iload_n (pc := 116) dX7_parse_116 rfl ?_
        refine bx_if_eq_f (pc := 117) (tgt := 124) dX7_parse_117 (by decide) (by decide) ?_
        refine ex_iload_n (pc := 120) dX7_parse_120 rfl ?_
        refine ex_goto (pc := 121) (tgt := 125) dX7_parse_121 (by decide) ?_
        refine ex_ret dX7_parse_125 rfl ?_
        have hok : okT (kyv tb tl (bgT tb tl 0)) ts := ⟨hk, hx, hb4.2.mp c_102⟩
        have hT' := hP4.1
        refine qi_mk ⟨upd z4 15 (nI 0), _, ⟨gs_eq hT'.1.1, gs_ne (by decide) hT'.1.2⟩, fun k hk' => by rw [upd_ne (by omega), zp4 k (by omega), k3 k (by omega), k2 k (by omega)]; exact hz k hk', upd_eq, (((hF.tr (c75_76 f2)).tr (c75_76 f3)).tr f4).tr (FrX.st (Or.inl rfl) (nscr (by omega))), ⟨[] ++ (prG ts).2.2, by have := prLen (8 * ts.length + 8) 1 ts 0 0; unfold prG; simp only [List.nil_append]; omega, rfl, fun _ => rfl⟩, fun _ => ⟨rfl, ?_, ?_⟩, fun q => absurd hok q⟩
        · rw [upd_ne (by decide), hP4.2.1]; rfl
        · rw [upd_ne (by decide), hP4.2.2.2]; rfl
  · skip
    refine ex_aload_n (pc := 63) dX7_parse_63 rfl ?_
    refine cx_VL0v (pc := 64) dX7_parse_64 lk_X7_320 hT.1.1 rfl (Nat.le_of_ble_eq_true rfl) (Nat.le_of_ble_eq_true rfl) (by omega) (c_M_nextToken hT hB (p := 0) (Nat.zero_le _) h17 (by omega) (by omega)) (fun h_64 q_64 => ?_)
    obtain ⟨z2, t2, k2, y2, f2⟩ := q_64
    refine ex_aload_n (pc := 67) dX7_parse_67 rfl ?_
    refine cx_VL0i (pc := 68) dX7_parse_68 lk_X7_357 t2.1.1 rfl (Nat.le_of_ble_eq_true rfl) (Nat.le_of_ble_eq_true rfl) (by omega) (c_M_key t2 hB y2 (bg_rng (Nat.zero_le _)).2 bg_ng (by omega)) (fun h_68 x_68 q_68 => ?_)
    obtain ⟨e_68, f_68⟩ := q_68
    rw [e_68, f_68]
    refine sx_istore_n (pc := 71) dX7_parse_71 rfl (by decide) ?_
    show Ex _ _ _ _ _ _ [_, _, _] _ _ _
    refine ex_iload_n (pc := 72) dX7_parse_72 rfl ?_
    refine bx_if_lt_t (pc := 73) (tgt := 80) dX7_parse_73 (by decide) (by rw [kyI, if_neg hk]; decide) ?_
    refine ex_iconst (pc := 80) (v := (nI 0)) dX7_parse_80 (by decide) ?_
    refine sx_istore_n (pc := 81) dX7_parse_81 rfl (by decide) ?_
    show Ex _ _ _ _ _ _ [_, _, _] _ _ _
    refine ex_iload_n (pc := 82) dX7_parse_82 rfl ?_
    refine bx_if_eq_t (pc := 83) (tgt := 111) dX7_parse_83 (by decide) (rfl) ?_
    refine ex_aload_n (pc := 111) dX7_parse_111 rfl ?_
    refine ex_iconst (pc := 112) (v := (nI 0)) dX7_parse_112 (by decide) ?_
    refine ex_put (pc := 113) dX7_parse_113 fp_X7_268 t2.1.1 (Nat.le_of_ble_eq_true rfl) rfl rfl ?_
    rw [mo_15]
    refine ex_iload_n (pc := 116) dX7_parse_116 rfl ?_
    refine bx_if_eq_t (pc := 117) (tgt := 124) dX7_parse_117 (by decide) (rfl) ?_
    refine ex_iconst (pc := 124) (v := (-1)) dX7_parse_124 (by decide) ?_
    refine ex_ret dX7_parse_125 rfl ?_
    refine qi_mk ⟨upd z2 15 (nI 0), s, ⟨gs_eq t2.1.1, gs_ne (by decide) t2.1.2⟩, fun k hk' => ?_, upd_eq, (hF.tr (c75_76 f2)).tr (FrX.st (Or.inl rfl) (nscr (by omega))), ⟨[], by simp, (wrA_nil _ _).symm, fun q => absurd q.1 hk⟩, fun q => absurd q.1 hk, fun _ => ⟨rfl, ?_⟩⟩
    · rw [upd_ne (by omega), k2 k (by omega)]; exact hz k hk'
    · rw [upd_ne (by decide), y2.1, plT, if_neg hk]
set_option maxHeartbeats 4000000 in
set_option maxRecDepth 100000 in
theorem c_M_parse {g : Gl} {d ks : Nat} {h : AH} {s tf z : Nat → Int32} {tb : Nat → Nat} {tl nt : Nat} (hT0 : TpM g h z s tf tl) (hB : TpOk tf tb) (h1n : s 1 = nI nt) (hnt : nt ≤ 14) {ts : List Tkn} (hts : kyv tb tl (bgT tb tl 0) < 3 → TkL tb tl (kyv tb tl (bgT tb tl 0)) (enT tb tl (bgT tb tl 0)) ts ∧ ts.length ≤ 96) (hd : 70 ≤ d) : Ex g mX7_parse d 0 ks 0 [some (.ref (g.1 + 75)), none, none] [] h (qi (RdM g s tf tb tl (laT nt) (kyv tb tl (bgT tb tl 0)) ts h z)) := by
  by_cases hn14 : nt < 14
  · have ela : laT nt = 90 + 200 * nt + 4 := if_pos hn14
    refine ex_aload_n (pc := 0) dX7_parse_0 rfl ?_
    refine ex_iconst (pc := 1) (v := (nI 0)) dX7_parse_1 (by decide) ?_
    refine ex_put (pc := 2) dX7_parse_2 fp_X7_280 hT0.1.1 (Nat.le_of_ble_eq_true rfl) rfl rfl ?_
    rw [mo_17]
    have hT1 := hT0.z (z' := (upd z 17 (nI 0))) (upd_ne (by decide))
    refine ex_aload_n (pc := 5) dX7_parse_5 rfl ?_
    refine ex_iconst (pc := 6) (v := (nI 3)) dX7_parse_6 (by decide) ?_
    refine ex_put (pc := 7) dX7_parse_7 fp_X7_283 hT1.1.1 (Nat.le_of_ble_eq_true rfl) rfl rfl ?_
    rw [mo_18]
    have hT2 := hT1.z (z' := (upd (upd z 17 (nI 0)) 18 (nI 3))) (upd_ne (by decide))
    refine ex_aload_n (pc := 10) dX7_parse_10 rfl ?_
    refine ex_iconst (pc := 11) (v := (nI 0)) dX7_parse_11 (by decide) ?_
    refine ex_put (pc := 12) dX7_parse_12 fp_X7_348 hT2.1.1 (Nat.le_of_ble_eq_true rfl) rfl rfl ?_
    rw [mo_21]
    have hT3 := hT2.z (z' := (upd (upd (upd z 17 (nI 0)) 18 (nI 3)) 21 (nI 0))) (upd_ne (by decide))
    refine ex_aload_n (pc := 15) dX7_parse_15 rfl ?_
    refine ex_iconst (pc := 16) (v := (nI 0)) dX7_parse_16 (by decide) ?_
    refine ex_put (pc := 17) dX7_parse_17 fp_X7_345 hT3.1.1 (Nat.le_of_ble_eq_true rfl) rfl rfl ?_
    rw [mo_22]
    have hT4 := hT3.z (z' := (upd (upd (upd (upd z 17 (nI 0)) 18 (nI 3)) 21 (nI 0)) 22 (nI 0))) (upd_ne (by decide))
    refine ex_aload_n (pc := 20) dX7_parse_20 rfl ?_
    refine ex_iconst (pc := 21) (v := (nI 0)) dX7_parse_21 (by decide) ?_
    refine ex_put (pc := 22) dX7_parse_22 fp_X7_311 hT4.1.1 (Nat.le_of_ble_eq_true rfl) rfl rfl ?_
    rw [mo_23]
    have hT5 := hT4.z (z' := (upd (upd (upd (upd (upd z 17 (nI 0)) 18 (nI 3)) 21 (nI 0)) 22 (nI 0)) 23 (nI 0))) (upd_ne (by decide))
    refine ex_aload_n (pc := 25) dX7_parse_25 rfl ?_
    refine ex_iconst (pc := 26) (v := (nI 0)) dX7_parse_26 (by decide) ?_
    refine ex_put (pc := 27) dX7_parse_27 fp_X7_339 hT5.1.1 (Nat.le_of_ble_eq_true rfl) rfl rfl ?_
    rw [mo_25]
    have hT6 := hT5.z (z' := (upd (upd (upd (upd (upd (upd z 17 (nI 0)) 18 (nI 3)) 21 (nI 0)) 22 (nI 0)) 23 (nI 0)) 25 (nI 0))) (upd_ne (by decide))
    refine ex_aload_n (pc := 30) dX7_parse_30 rfl ?_
    refine ex_aload_n (pc := 31) dX7_parse_31 rfl ?_
    refine ex_get (pc := 32) dX7_parse_32 fl_X7_7 hT6.1.1 rfl ?_
    refine ex_iconst (pc := 35) (v := (nI 1)) dX7_parse_35 (by decide) ?_
    refine ex_ildn (k := 1) (pc := 36) dX7_parse_36 hT6.1.2 rfl (by omega) (by decide) ?_
    refine ex_bipush (pc := 37) (v := (nI 14)) dX7_parse_37 (by decide) ?_
    refine bx_icmp_ge_f (pc := 39) (tgt := 57) dX7_parse_39 (by decide) (by rw [h1n]; exact nI_ge hn14 (by omega)) ?_
    refine ex_aload_n (pc := 42) dX7_parse_42 rfl ?_
    refine ex_aload_n (pc := 43) dX7_parse_43 rfl ?_
    refine ex_get (pc := 44) dX7_parse_44 fl_X7_7 hT6.1.1 rfl ?_
    refine ex_iconst (pc := 47) (v := (nI 1)) dX7_parse_47 (by decide) ?_
    refine ex_ildn (k := 1) (pc := 48) dX7_parse_48 hT6.1.2 rfl (by omega) (by decide) ?_
    rw [h1n]
    refine cx_VL1i (pc := 49) dX7_parse_49 lk_X7_354 hT6.1.1 rfl (Nat.le_of_ble_eq_true rfl) (Nat.le_of_ble_eq_true rfl) (by omega) (c_M_textAt _) (fun h_49 x_49 q_49 => ?_)
    obtain ⟨e_49, f_49⟩ := q_49
    rw [e_49, f_49]
    refine ex_iconst (pc := 52) (v := (nI 4)) dX7_parse_52 (by decide) ?_
    rw [nI_mul, nI_add]
    refine ex_iadd (pc := 53) dX7_parse_53 ?_
    refine ex_goto (pc := 54) (tgt := 60) dX7_parse_54 (by decide) ?_
    rw [nI_add, ← ela]
    refine ex_put (pc := 60) dX7_parse_60 fp_X7_308 hT6.1.1 (Nat.le_of_ble_eq_true rfl) rfl rfl ?_
    rw [mo_24]
    exact c_M_parseB (la := laT nt) hB (by unfold laT; split <;> omega) hts hd (hT6.z (z' := upd (upd (upd (upd (upd (upd (upd z 17 (nI 0)) 18 (nI 3)) 21 (nI 0)) 22 (nI 0)) 23 (nI 0)) 25 (nI 0)) 24 (nI (laT nt))) (upd_ne (by decide))) (fun k hk => by rw [upd_ne (by omega), upd_ne (by omega), upd_ne (by omega), upd_ne (by omega), upd_ne (by omega), upd_ne (by omega), upd_ne (by omega)]) (((((((FrX.rf.tr (FrX.st (Or.inl rfl) (nscr (by omega)))).tr (FrX.st (Or.inl rfl) (nscr (by omega)))).tr (FrX.st (Or.inl rfl) (nscr (by omega)))).tr (FrX.st (Or.inl rfl) (nscr (by omega)))).tr (FrX.st (Or.inl rfl) (nscr (by omega)))).tr (FrX.st (Or.inl rfl) (nscr (by omega)))).tr (FrX.st (Or.inl rfl) (nscr (by omega)))) (by rw [upd_ne (by decide), upd_ne (by decide), upd_ne (by decide), upd_ne (by decide), upd_ne (by decide), upd_ne (by decide), upd_eq]) (by rw [upd_ne (by decide), upd_ne (by decide), upd_ne (by decide), upd_ne (by decide), upd_ne (by decide), upd_eq]) (by rw [upd_ne (by decide), upd_ne (by decide), upd_ne (by decide), upd_ne (by decide), upd_eq]) (by rw [upd_ne (by decide), upd_ne (by decide), upd_ne (by decide), upd_eq]) (by rw [upd_ne (by decide), upd_ne (by decide), upd_eq]) upd_eq (by rw [upd_ne (by decide), upd_eq]) _ _
  · have ela : laT nt = 2890 := if_neg hn14
    refine ex_aload_n (pc := 0) dX7_parse_0 rfl ?_
    refine ex_iconst (pc := 1) (v := (nI 0)) dX7_parse_1 (by decide) ?_
    refine ex_put (pc := 2) dX7_parse_2 fp_X7_280 hT0.1.1 (Nat.le_of_ble_eq_true rfl) rfl rfl ?_
    rw [mo_17]
    have hT1 := hT0.z (z' := (upd z 17 (nI 0))) (upd_ne (by decide))
    refine ex_aload_n (pc := 5) dX7_parse_5 rfl ?_
    refine ex_iconst (pc := 6) (v := (nI 3)) dX7_parse_6 (by decide) ?_
    refine ex_put (pc := 7) dX7_parse_7 fp_X7_283 hT1.1.1 (Nat.le_of_ble_eq_true rfl) rfl rfl ?_
    rw [mo_18]
    have hT2 := hT1.z (z' := (upd (upd z 17 (nI 0)) 18 (nI 3))) (upd_ne (by decide))
    refine ex_aload_n (pc := 10) dX7_parse_10 rfl ?_
    refine ex_iconst (pc := 11) (v := (nI 0)) dX7_parse_11 (by decide) ?_
    refine ex_put (pc := 12) dX7_parse_12 fp_X7_348 hT2.1.1 (Nat.le_of_ble_eq_true rfl) rfl rfl ?_
    rw [mo_21]
    have hT3 := hT2.z (z' := (upd (upd (upd z 17 (nI 0)) 18 (nI 3)) 21 (nI 0))) (upd_ne (by decide))
    refine ex_aload_n (pc := 15) dX7_parse_15 rfl ?_
    refine ex_iconst (pc := 16) (v := (nI 0)) dX7_parse_16 (by decide) ?_
    refine ex_put (pc := 17) dX7_parse_17 fp_X7_345 hT3.1.1 (Nat.le_of_ble_eq_true rfl) rfl rfl ?_
    rw [mo_22]
    have hT4 := hT3.z (z' := (upd (upd (upd (upd z 17 (nI 0)) 18 (nI 3)) 21 (nI 0)) 22 (nI 0))) (upd_ne (by decide))
    refine ex_aload_n (pc := 20) dX7_parse_20 rfl ?_
    refine ex_iconst (pc := 21) (v := (nI 0)) dX7_parse_21 (by decide) ?_
    refine ex_put (pc := 22) dX7_parse_22 fp_X7_311 hT4.1.1 (Nat.le_of_ble_eq_true rfl) rfl rfl ?_
    rw [mo_23]
    have hT5 := hT4.z (z' := (upd (upd (upd (upd (upd z 17 (nI 0)) 18 (nI 3)) 21 (nI 0)) 22 (nI 0)) 23 (nI 0))) (upd_ne (by decide))
    refine ex_aload_n (pc := 25) dX7_parse_25 rfl ?_
    refine ex_iconst (pc := 26) (v := (nI 0)) dX7_parse_26 (by decide) ?_
    refine ex_put (pc := 27) dX7_parse_27 fp_X7_339 hT5.1.1 (Nat.le_of_ble_eq_true rfl) rfl rfl ?_
    rw [mo_25]
    have hT6 := hT5.z (z' := (upd (upd (upd (upd (upd (upd z 17 (nI 0)) 18 (nI 3)) 21 (nI 0)) 22 (nI 0)) 23 (nI 0)) 25 (nI 0))) (upd_ne (by decide))
    refine ex_aload_n (pc := 30) dX7_parse_30 rfl ?_
    refine ex_aload_n (pc := 31) dX7_parse_31 rfl ?_
    refine ex_get (pc := 32) dX7_parse_32 fl_X7_7 hT6.1.1 rfl ?_
    refine ex_iconst (pc := 35) (v := (nI 1)) dX7_parse_35 (by decide) ?_
    refine ex_ildn (k := 1) (pc := 36) dX7_parse_36 hT6.1.2 rfl (by omega) (by decide) ?_
    refine ex_bipush (pc := 37) (v := (nI 14)) dX7_parse_37 (by decide) ?_
    refine bx_icmp_ge_t (pc := 39) (tgt := 57) dX7_parse_39 (by decide) (by rw [h1n]; exact nI_le (by omega) (by omega)) ?_
    refine ex_sipush (pc := 57) (v := (nI 2890)) dX7_parse_57 (by decide) ?_
    rw [← ela]
    refine ex_put (pc := 60) dX7_parse_60 fp_X7_308 hT6.1.1 (Nat.le_of_ble_eq_true rfl) rfl rfl ?_
    rw [mo_24]
    exact c_M_parseB (la := laT nt) hB (by unfold laT; split <;> omega) hts hd (hT6.z (z' := upd (upd (upd (upd (upd (upd (upd z 17 (nI 0)) 18 (nI 3)) 21 (nI 0)) 22 (nI 0)) 23 (nI 0)) 25 (nI 0)) 24 (nI (laT nt))) (upd_ne (by decide))) (fun k hk => by rw [upd_ne (by omega), upd_ne (by omega), upd_ne (by omega), upd_ne (by omega), upd_ne (by omega), upd_ne (by omega), upd_ne (by omega)]) (((((((FrX.rf.tr (FrX.st (Or.inl rfl) (nscr (by omega)))).tr (FrX.st (Or.inl rfl) (nscr (by omega)))).tr (FrX.st (Or.inl rfl) (nscr (by omega)))).tr (FrX.st (Or.inl rfl) (nscr (by omega)))).tr (FrX.st (Or.inl rfl) (nscr (by omega)))).tr (FrX.st (Or.inl rfl) (nscr (by omega)))).tr (FrX.st (Or.inl rfl) (nscr (by omega)))) (by rw [upd_ne (by decide), upd_ne (by decide), upd_ne (by decide), upd_ne (by decide), upd_ne (by decide), upd_ne (by decide), upd_eq]) (by rw [upd_ne (by decide), upd_ne (by decide), upd_ne (by decide), upd_ne (by decide), upd_ne (by decide), upd_eq]) (by rw [upd_ne (by decide), upd_ne (by decide), upd_ne (by decide), upd_ne (by decide), upd_eq]) (by rw [upd_ne (by decide), upd_ne (by decide), upd_ne (by decide), upd_eq]) (by rw [upd_ne (by decide), upd_ne (by decide), upd_eq]) upd_eq (by rw [upd_ne (by decide), upd_eq]) _ _
def nTx (s : Nat → Int32) (nt k : Nat) (A : List Stq) : Nat → Int32 := upd (upd (upd (upd (wrA s (90 + 200 * nt + 4) A) (90 + 200 * nt + 0) (nI k)) (90 + 200 * nt + 1) (nI (lvs A))) (90 + 200 * nt + 2) (nI A.length)) 1 (nI (nt + 1))
/-- what a text leaves in the reference -/
def TxQ (g : Gl) (s : Nat → Int32) (tb : Nat → Nat) (tl nt k : Nat) (ts : List Tkn) (h : AH) (z : Nat → Int32) (h' : AH) (r : Int32) : Prop := ∃ z' s', Ms g h' z' s' ∧ zT z z' ∧ z' 15 = nI 0 ∧ FrX c7576 g h h' ∧ (¬ okT k ts → r = -100 - nI (plT tb tl k ts)) ∧ (okT k ts → nt = 14 → r = -1000000003) ∧ (okT k ts → nt < 14 → r = nI nt ∧ s' = nTx s nt k (prG ts).2.2) ∧ ((¬ okT k ts ∨ nt = 14) → ∃ A : List Stq, A.length ≤ 96 ∧ s' = wrA s (laT nt) A)
theorem Ms.w {g : Gl} {h : AH} {z s : Nat → Int32} (a : Ms g h z s) {k : Nat} {v : Int32} : Ms g (h.set 76 (ia g 3090 (upd s k v))) z (upd s k v) := ⟨gs_ne (by decide) a.1, gs_eq a.2⟩
set_option maxHeartbeats 4000000 in
set_option maxRecDepth 100000 in
theorem c_M_text {g : Gl} {d ks : Nat} {h : AH} {s tf z : Nat → Int32} {tb : Nat → Nat} {tl nt : Nat} (hT0 : TpM g h z s tf tl) (hB : TpOk tf tb) (h1n : s 1 = nI nt) (hnt : nt ≤ 14) {ts : List Tkn} (hts : kyv tb tl (bgT tb tl 0) < 3 → TkL tb tl (kyv tb tl (bgT tb tl 0)) (enT tb tl (bgT tb tl 0)) ts ∧ ts.length ≤ 96) (hd : 71 ≤ d) : Ex g mX7_text d 0 ks 0 [some (.ref (g.1 + 75)), none, none] [] h (qi (TxQ g s tb tl nt (kyv tb tl (bgT tb tl 0)) ts h z)) := by
  by_cases hx : okT (kyv tb tl (bgT tb tl 0)) ts
  · by_cases h14 : nt = 14
    · skip
      refine ex_aload_n (pc := 0) dX7_text_0 rfl ?_
      refine cx_VL0i (pc := 1) dX7_text_1 lk_X7_360 hT0.1.1 rfl (Nat.le_of_ble_eq_true rfl) (Nat.le_of_ble_eq_true rfl) (by omega) (c_M_parse hT0 hB h1n hnt hts (by omega)) (fun h_1 x_1 q_1 => ?_)
      obtain ⟨z2, s2, hM2, hz2, h15, f2, ⟨A, hA, es, eA⟩, hok, hno⟩ := q_1
      have hs1 : s2 1 = nI nt := by rw [es, wrA_lo (by unfold laT; split <;> omega)]; exact h1n
      refine sx_istore_n (pc := 4) dX7_text_4 rfl (by decide) ?_
      show Ex _ _ _ _ _ _ [_, _, _] _ _ _
      refine ex_iload_n (pc := 5) dX7_text_5 rfl ?_
      refine bx_if_ge_t (pc := 6) (tgt := 17) dX7_text_6 (by decide) (by rw [(hok hx).1, ← (kyI_n hx.1).2.2]; exact (kyI_n hx.1).2.1) ?_
      refine ex_aload_n (pc := 17) dX7_text_17 rfl ?_
      refine ex_get (pc := 18) dX7_text_18 fl_X7_7 hM2.1 rfl ?_
      refine ex_iconst (pc := 21) (v := (nI 1)) dX7_text_21 (by decide) ?_
      refine ex_ildn (k := 1) (pc := 22) dX7_text_22 hM2.2 rfl (by decide) (by decide) ?_
      refine ex_bipush (pc := 23) (v := (nI 14)) dX7_text_23 (by decide) ?_
      refine bx_icmp_ne_f (pc := 25) (tgt := 31) dX7_text_25 (by decide) (by rw [hs1, h14]) ?_
      refine ex_ldc (pc := 28) dX7_text_28 cn_X7_166 ?_
      refine ex_ret dX7_text_30 rfl ?_
      exact qi_mk ⟨z2, s2, hM2, hz2, h15, f2, fun q => absurd hx q, fun _ _ => rfl, fun _ q => absurd q (by omega), fun _ => ⟨A, hA, es⟩⟩
    · skip
      refine ex_aload_n (pc := 0) dX7_text_0 rfl ?_
      refine cx_VL0i (pc := 1) dX7_text_1 lk_X7_360 hT0.1.1 rfl (Nat.le_of_ble_eq_true rfl) (Nat.le_of_ble_eq_true rfl) (by omega) (c_M_parse hT0 hB h1n hnt hts (by omega)) (fun h_1 x_1 q_1 => ?_)
      obtain ⟨z2, s2, hM2, hz2, h15, f2, ⟨A, hA, es, eA⟩, hok, hno⟩ := q_1
      have hs1 : s2 1 = nI nt := by rw [es, wrA_lo (by unfold laT; split <;> omega)]; exact h1n
      refine sx_istore_n (pc := 4) dX7_text_4 rfl (by decide) ?_
      show Ex _ _ _ _ _ _ [_, _, _] _ _ _
      refine ex_iload_n (pc := 5) dX7_text_5 rfl ?_
      refine bx_if_ge_t (pc := 6) (tgt := 17) dX7_text_6 (by decide) (by rw [(hok hx).1, ← (kyI_n hx.1).2.2]; exact (kyI_n hx.1).2.1) ?_
      refine ex_aload_n (pc := 17) dX7_text_17 rfl ?_
      refine ex_get (pc := 18) dX7_text_18 fl_X7_7 hM2.1 rfl ?_
      refine ex_iconst (pc := 21) (v := (nI 1)) dX7_text_21 (by decide) ?_
      refine ex_ildn (k := 1) (pc := 22) dX7_text_22 hM2.2 rfl (by decide) (by decide) ?_
      refine ex_bipush (pc := 23) (v := (nI 14)) dX7_text_23 (by decide) ?_
      refine bx_icmp_ne_t (pc := 25) (tgt := 31) dX7_text_25 (by decide) (by rw [hs1]; exact fun q => h14 ((nI_eq (by omega) (by omega)).mp q)) ?_
      refine ex_aload_n (pc := 31) dX7_text_31 rfl ?_
      refine ex_aload_n (pc := 32) dX7_text_32 rfl ?_
      refine ex_get (pc := 33) dX7_text_33 fl_X7_7 hM2.1 rfl ?_
      refine ex_iconst (pc := 36) (v := (nI 1)) dX7_text_36 (by decide) ?_
      refine ex_ildn (k := 1) (pc := 37) dX7_text_37 hM2.2 rfl (by decide) (by decide) ?_
      rw [hs1]
      refine cx_VL1i (pc := 38) dX7_text_38 lk_X7_354 hM2.1 rfl (Nat.le_of_ble_eq_true rfl) (Nat.le_of_ble_eq_true rfl) (by omega) (c_M_textAt _) (fun h_38 x_38 q_38 => ?_)
      obtain ⟨e_38, f_38⟩ := q_38
      rw [e_38, f_38]
      rw [nI_mul, nI_add]
      refine sx_istore_n (pc := 41) dX7_text_41 rfl (by decide) ?_
      show Ex _ _ _ _ _ _ [_, _, _] _ _ _
      refine ex_aload_n (pc := 42) dX7_text_42 rfl ?_
      refine ex_get (pc := 43) dX7_text_43 fl_X7_7 hM2.1 rfl ?_
      refine ex_iload_n (pc := 46) dX7_text_46 rfl ?_
      refine ex_iconst (pc := 47) (v := (nI 0)) dX7_text_47 (by decide) ?_
      refine ex_iadd (pc := 48) dX7_text_48 ?_
      rw [nI_add]
      refine ex_iload_n (pc := 49) dX7_text_49 rfl ?_
      rw [(hok hx).1]
      refine ex_istn (k := 90 + 200 * nt + 0) (pc := 50) dX7_text_50 hM2.2 rfl (by omega) (by decide) ?_
      have M3 := hM2.w (k := 90 + 200 * nt + 0) (v := nI (kyv tb tl (bgT tb tl 0)))
      refine ex_aload_n (pc := 51) dX7_text_51 rfl ?_
      refine ex_get (pc := 52) dX7_text_52 fl_X7_7 M3.1 rfl ?_
      refine ex_iload_n (pc := 55) dX7_text_55 rfl ?_
      refine ex_iconst (pc := 56) (v := (nI 1)) dX7_text_56 (by decide) ?_
      refine ex_iadd (pc := 57) dX7_text_57 ?_
      rw [nI_add]
      refine ex_aload_n (pc := 58) dX7_text_58 rfl ?_
      refine ex_get (pc := 59) dX7_text_59 fl_X7_339 M3.1 rfl ?_
      rw [(hok hx).2.2]
      refine ex_istn (k := 90 + 200 * nt + 1) (pc := 62) dX7_text_62 M3.2 rfl (by omega) (by decide) ?_
      have M4 := M3.w (k := 90 + 200 * nt + 1) (v := nI (lvs (prG ts).2.2))
      refine ex_aload_n (pc := 63) dX7_text_63 rfl ?_
      refine ex_get (pc := 64) dX7_text_64 fl_X7_7 M4.1 rfl ?_
      refine ex_iload_n (pc := 67) dX7_text_67 rfl ?_
      refine ex_iconst (pc := 68) (v := (nI 2)) dX7_text_68 (by decide) ?_
      refine ex_iadd (pc := 69) dX7_text_69 ?_
      rw [nI_add]
      refine ex_aload_n (pc := 70) dX7_text_70 rfl ?_
      refine ex_get (pc := 71) dX7_text_71 fl_X7_311 M4.1 rfl ?_
      rw [(hok hx).2.1]
      refine ex_istn (k := 90 + 200 * nt + 2) (pc := 74) dX7_text_74 M4.2 rfl (by omega) (by decide) ?_
      have M5 := M4.w (k := 90 + 200 * nt + 2) (v := nI (prG ts).2.2.length)
      have e1n : upd (upd (upd s2 (90 + 200 * nt + 0) (nI (kyv tb tl (bgT tb tl 0)))) (90 + 200 * nt + 1) (nI (lvs (prG ts).2.2))) (90 + 200 * nt + 2) (nI (prG ts).2.2.length) 1 = nI nt := by rw [upd_ne (by omega), upd_ne (by omega), upd_ne (by omega)]; exact hs1
      refine ex_aload_n (pc := 75) dX7_text_75 rfl ?_
      refine ex_get (pc := 76) dX7_text_76 fl_X7_7 M5.1 rfl ?_
      refine ex_iconst (pc := 79) (v := (nI 1)) dX7_text_79 (by decide) ?_
      refine ex_dup2 (pc := 80) dX7_text_80 rfl rfl ?_
      refine ex_ildn (k := 1) (pc := 81) dX7_text_81 M5.2 rfl (by decide) (by decide) ?_
      rw [e1n]
      refine ex_iconst (pc := 82) (v := (nI 1)) dX7_text_82 (by decide) ?_
      refine ex_iadd (pc := 83) dX7_text_83 ?_
      rw [nI_add]
      refine ex_istn (k := 1) (pc := 84) dX7_text_84 M5.2 rfl (by decide) (by decide) ?_
      have M6 := M5.w (k := 1) (v := nI (nt + 1))
      refine ex_aload_n (pc := 85) dX7_text_85 rfl ?_
      refine ex_get (pc := 86) dX7_text_86 fl_X7_7 M6.1 rfl ?_
      refine ex_iconst (pc := 89) (v := (nI 1)) dX7_text_89 (by decide) ?_
      refine ex_ildn (k := 1) (pc := 90) dX7_text_90 M6.2 rfl (by decide) (by decide) ?_
      rw [upd_eq]
      refine ex_iconst (pc := 91) (v := (nI 1)) dX7_text_91 (by decide) ?_
      refine ex_isub (pc := 92) dX7_text_92 ?_
      rw [nI_sub (by omega), Nat.add_sub_cancel]
      refine ex_ret dX7_text_93 rfl ?_
      refine qi_mk ⟨z2, _, M6, hz2, h15, (((f2.tr (FrX.st (Or.inr rfl) (nscr (by omega)))).tr (FrX.st (Or.inr rfl) (nscr (by omega)))).tr (FrX.st (Or.inr rfl) (nscr (by omega)))).tr (FrX.st (Or.inr rfl) (nscr (by omega))), fun q => absurd hx q, fun _ q => absurd q h14, fun _ _ => ⟨rfl, ?_⟩, fun q => absurd q (fun y => y.elim (fun y' => y' hx) h14)⟩
      unfold nTx
      rw [es, eA hx, show laT nt = 90 + 200 * nt + 4 from if_pos (by omega)]
  · skip
    refine ex_aload_n (pc := 0) dX7_text_0 rfl ?_
    refine cx_VL0i (pc := 1) dX7_text_1 lk_X7_360 hT0.1.1 rfl (Nat.le_of_ble_eq_true rfl) (Nat.le_of_ble_eq_true rfl) (by omega) (c_M_parse hT0 hB h1n hnt hts (by omega)) (fun h_1 x_1 q_1 => ?_)
    obtain ⟨z2, s2, hM2, hz2, h15, f2, ⟨A, hA, es, eA⟩, hok, hno⟩ := q_1
    have hs1 : s2 1 = nI nt := by rw [es, wrA_lo (by unfold laT; split <;> omega)]; exact h1n
    refine sx_istore_n (pc := 4) dX7_text_4 rfl (by decide) ?_
    show Ex _ _ _ _ _ _ [_, _, _] _ _ _
    refine ex_iload_n (pc := 5) dX7_text_5 rfl ?_
    refine bx_if_ge_f (pc := 6) (tgt := 17) dX7_text_6 (by decide) (by rw [(hno hx).1]; decide) ?_
    refine ex_bipush (pc := 9) (v := (-100)) dX7_text_9 (by decide) ?_
    refine ex_aload_n (pc := 11) dX7_text_11 rfl ?_
    refine ex_get (pc := 12) dX7_text_12 fl_X7_286 hM2.1 rfl ?_
    refine ex_isub (pc := 15) dX7_text_15 ?_
    refine ex_ret dX7_text_16 rfl ?_
    refine qi_mk ⟨z2, s2, hM2, hz2, h15, f2, fun _ => ?_, fun q => absurd q hx, fun q => absurd q hx, fun _ => ⟨A, hA, es⟩⟩
    rw [(hno hx).2]

/-! the reference's way through a text: a piece -/
theorem isNm_0 {ky c : Nat} (h : isNm ky c = true) : ¬ c = 0 := by
  intro e
  subst e
  unfold isNm at h
  (repeat' split at h) <;> revert h <;> decide
set_option maxHeartbeats 4000000 in
set_option maxRecDepth 100000 in
theorem c_M_part0 {g : Gl} {s tf : Nat → Int32} {tb : Nat → Nat} {tl la ky : Nat} (hB : TpOk tf tb) (hla : la + 194 ≤ 3090) (hky : ky < 3) {f : Nat} (Hp : CT g s tf tb tl la ky mX7_part0 [] f 6) (He : CT g s tf tb tl la ky mX7_either [] f 1) : CT g s tf tb tl la ky mX7_part0 [] (f + 1) 6 := by
  intro d ks ts D u A h z hP hk h21 h22 hD hu hlen hf hd
  have hd1 : 3 ≤ d := by unfold frm at hd; omega
  cases ts with
  | nil =>
    have h18 := (TkM_0 hk).1
    refine ex_aload_n (pc := 0) dX7_part0_0 rfl ?_
    refine ex_get (pc := 1) dX7_part0_1 fl_X7_283 hP.1.1.1 rfl ?_
    refine ex_iconst (pc := 4) (v := (nI 2)) dX7_part0_4 (by decide) ?_
    refine bx_icmp_ne_t (pc := 5) (tgt := 33) dX7_part0_5 (by decide) (by rw [h18]; decide) ?_
    refine ex_aload_n (pc := 33) dX7_part0_33 rfl ?_
    refine ex_get (pc := 34) dX7_part0_34 fl_X7_283 hP.1.1.1 rfl ?_
    refine ex_iconst (pc := 37) (v := (nI 1)) dX7_part0_37 (by decide) ?_
    refine bx_icmp_ne_t (pc := 38) (tgt := 84) dX7_part0_38 (by decide) (by rw [h18]; decide) ?_
    refine ex_aload_n (pc := 84) dX7_part0_84 rfl ?_
    refine ex_bipush (pc := 85) (v := (nI 33)) dX7_part0_85 (by decide) ?_
    refine cx_VL1i (pc := 87) dX7_part0_87 lk_X7_317 hP.1.1.1 rfl (Nat.le_of_ble_eq_true rfl) (Nat.le_of_ble_eq_true rfl) (by omega) (c_M_isSign hP.1 hB hk (c := 33) (by decide)) (fun h_87 x_87 q_87 => ?_)
    obtain ⟨e_87, f_87⟩ := q_87
    rw [e_87, f_87]
    refine bx_if_eq_t (pc := 90) (tgt := 145) dX7_part0_90 (by decide) (bI_f (by decide)) ?_
    refine ex_aload_n (pc := 145) dX7_part0_145 rfl ?_
    refine ex_bipush (pc := 146) (v := (nI 40)) dX7_part0_146 (by decide) ?_
    refine cx_VL1i (pc := 148) dX7_part0_148 lk_X7_317 hP.1.1.1 rfl (Nat.le_of_ble_eq_true rfl) (Nat.le_of_ble_eq_true rfl) (by omega) (c_M_isSign hP.1 hB hk (c := 40) (by decide)) (fun h_148 x_148 q_148 => ?_)
    obtain ⟨e_148, f_148⟩ := q_148
    rw [e_148, f_148]
    refine bx_if_eq_t (pc := 151) (tgt := 163) dX7_part0_151 (by decide) (bI_f (by decide)) ?_
    refine ex_iconst (pc := 163) (v := 0) dX7_part0_163 (by decide) ?_
    refine ex_zret dX7_part0_164 rfl (by first | exact Or.inl rfl | exact Or.inr rfl | exact bI_01 _) ?_
    have e1 : pr (f + 1) 6 [] D u = (false, [], []) := by rw [pr, if_pos rfl]; rfl
    rw [e1]
    exact qi_mk ⟨z, zP.rf, hk, FrX.rf, fun y => (by cases y), fun _ => ⟨rfl, A, by omega, hP.1⟩⟩
  | cons t r =>
    have hlc : (t :: r).length = r.length + 1 := rfl
    rcases (TkM_s hB hk).1 with ⟨hkd, h18, hv, h9⟩ | ⟨hkd, h18, hv, hnm, hv2⟩ | ⟨hkd, h18, hv, hv2⟩ | ⟨hkd, h4⟩
    · skip
      refine ex_aload_n (pc := 0) dX7_part0_0 rfl ?_
      refine ex_get (pc := 1) dX7_part0_1 fl_X7_283 hP.1.1.1 rfl ?_
      refine ex_iconst (pc := 4) (v := (nI 2)) dX7_part0_4 (by decide) ?_
      refine bx_icmp_ne_f (pc := 5) (tgt := 33) dX7_part0_5 (by decide) (h18) ?_
      refine ex_aload_n (pc := 8) dX7_part0_8 rfl ?_
      refine ex_iconst (pc := 9) (v := (nI 0)) dX7_part0_9 (by decide) ?_
      refine ex_aload_n (pc := 10) dX7_part0_10 rfl ?_
      refine ex_get (pc := 11) dX7_part0_11 fl_X7_298 hP.1.1.1 rfl ?_
      rw [hv]
      refine cx_VL2v (pc := 14) dX7_part0_14 lk_X7_323 hP.1.1.1 rfl (Nat.le_of_ble_eq_true rfl) (Nat.le_of_ble_eq_true rfl) (by omega) (c_M_step hP (by omega) 0 t.2.2.2) (fun h_14 q_14 => ?_)
      obtain ⟨t4, f4⟩ := q_14
      refine ex_aload_n (pc := 17) dX7_part0_17 rfl ?_
      refine ex_dup (pc := 18) dX7_part0_18 rfl ?_
      refine ex_get (pc := 19) dX7_part0_19 fl_X7_339 t4.1.1 rfl ?_
      rw [upd_ne (by decide), hP.2.2.2]
      refine ex_iconst (pc := 22) (v := (nI 1)) dX7_part0_22 (by decide) ?_
      refine ex_iadd (pc := 23) dX7_part0_23 ?_
      refine ex_put (pc := 24) dX7_part0_24 fp_X7_339 t4.1.1 (Nat.le_of_ble_eq_true rfl) rfl rfl ?_
      rw [mo_25, nI_add]
      have t5 := t4.z (z' := (upd (upd z 23 (nI (A.length + 1))) 25 (nI (lvs A + 1)))) (upd_ne (by decide))
      have hP5 : PS g _ (upd (upd z 23 (nI (A.length + 1))) 25 (nI (lvs A + 1))) s tf tl la (A ++ [(0, t.2.2.2)]) := ⟨t5, by rw [upd_ne (by decide), upd_eq]; simp, by rw [upd_ne (by decide), upd_ne (by decide)]; exact hP.2.2.1, by rw [upd_eq, lvs_app]; rfl⟩
      have hk5 : TkM tb tl ky (upd (upd z 23 (nI (A.length + 1))) 25 (nI (lvs A + 1))) (t :: r) := hk.c (fun k h1 h2 => (upd_ne (by omega)).trans (upd_ne (by omega)))
      refine ex_aload_n (pc := 27) dX7_part0_27 rfl ?_
      refine cx_VL0v (pc := 28) dX7_part0_28 lk_X7_320 t5.1.1 rfl (Nat.le_of_ble_eq_true rfl) (Nat.le_of_ble_eq_true rfl) (by omega) (c_M_nx t5 hB hk5 (by omega) (by omega)) (fun h_28 q_28 => ?_)
      obtain ⟨z6, t6, k6, tk6, f6⟩ := q_28
      refine ex_iconst (pc := 31) (v := 1) dX7_part0_31 (by decide) ?_
      refine ex_zret dX7_part0_32 rfl (by first | exact Or.inl rfl | exact Or.inr rfl | exact bI_01 _) ?_
      have e1 : pr (f + 1) 6 (t :: r) D u = (true, r, [(0, t.2.2.2)]) := by
        rw [pr, if_pos rfl]
        unfold prP
        dsimp only
        rw [if_pos (by omega), hkd]
      rw [e1]
      refine qi_mk ⟨z6, ((zP.up (k := 23) (by omega) (by omega)).tr (zP.up (k := 25) (by omega) (by omega))).tr k6.p, tk6, (f4.tr (FrX.st (Or.inl rfl) (nscr (by omega)))).tr (c75_76 f6), fun _ => ⟨rfl, hP5.k k6 t6, ?_, ?_⟩, fun y => (by cases y)⟩
      · rw [k6 21 (by omega), upd_ne (by decide), upd_ne (by decide)]; exact h21
      · rw [k6 22 (by omega), upd_ne (by decide), upd_ne (by decide)]; exact h22
    · skip
      refine ex_aload_n (pc := 0) dX7_part0_0 rfl ?_
      refine ex_get (pc := 1) dX7_part0_1 fl_X7_283 hP.1.1.1 rfl ?_
      refine ex_iconst (pc := 4) (v := (nI 2)) dX7_part0_4 (by decide) ?_
      refine bx_icmp_ne_t (pc := 5) (tgt := 33) dX7_part0_5 (by decide) (by rw [h18]; decide) ?_
      refine ex_aload_n (pc := 33) dX7_part0_33 rfl ?_
      refine ex_get (pc := 34) dX7_part0_34 fl_X7_283 hP.1.1.1 rfl ?_
      refine ex_iconst (pc := 37) (v := (nI 1)) dX7_part0_37 (by decide) ?_
      refine bx_icmp_ne_f (pc := 38) (tgt := 84) dX7_part0_38 (by decide) (h18) ?_
      refine ex_aload_n (pc := 41) dX7_part0_41 rfl ?_
      refine ex_get (pc := 42) dX7_part0_42 fl_X7_292 hP.1.1.1 rfl ?_
      refine bx_if_eq_f (pc := 45) (tgt := 84) dX7_part0_45 (by decide) (by rw [hv]; exact nI_ne0 (by have := isNm_0 hnm; omega) (by omega)) ?_
      refine ex_iload_n (pc := 48) dX7_part0_48 rfl ?_
      refine ex_aload_n (pc := 49) dX7_part0_49 rfl ?_
      refine ex_get (pc := 50) dX7_part0_50 fl_X7_292 hP.1.1.1 rfl ?_
      rw [hv]
      refine cx_SL2i (pc := 53) dX7_part0_53 lk_X7_342 rfl (Nat.le_of_ble_eq_true rfl) (Nat.le_of_ble_eq_true rfl) (by omega) (c_M_isName hky (by omega)) (fun h_53 x_53 q_53 => ?_)
      obtain ⟨e_53, f_53⟩ := q_53
      rw [e_53, f_53]
      refine bx_if_eq_f (pc := 56) (tgt := 84) dX7_part0_56 (by decide) (by rw [bI_t hnm]; decide) ?_
      refine ex_aload_n (pc := 59) dX7_part0_59 rfl ?_
      refine ex_iconst (pc := 60) (v := (nI 1)) dX7_part0_60 (by decide) ?_
      refine ex_aload_n (pc := 61) dX7_part0_61 rfl ?_
      refine ex_get (pc := 62) dX7_part0_62 fl_X7_292 hP.1.1.1 rfl ?_
      rw [hv]
      refine cx_VL2v (pc := 65) dX7_part0_65 lk_X7_323 hP.1.1.1 rfl (Nat.le_of_ble_eq_true rfl) (Nat.le_of_ble_eq_true rfl) (by omega) (c_M_step hP (by omega) 1 t.2.2.2) (fun h_65 q_65 => ?_)
      obtain ⟨t4, f4⟩ := q_65
      refine ex_aload_n (pc := 68) dX7_part0_68 rfl ?_
      refine ex_dup (pc := 69) dX7_part0_69 rfl ?_
      refine ex_get (pc := 70) dX7_part0_70 fl_X7_339 t4.1.1 rfl ?_
      rw [upd_ne (by decide), hP.2.2.2]
      refine ex_iconst (pc := 73) (v := (nI 1)) dX7_part0_73 (by decide) ?_
      refine ex_iadd (pc := 74) dX7_part0_74 ?_
      refine ex_put (pc := 75) dX7_part0_75 fp_X7_339 t4.1.1 (Nat.le_of_ble_eq_true rfl) rfl rfl ?_
      rw [mo_25, nI_add]
      have t5 := t4.z (z' := (upd (upd z 23 (nI (A.length + 1))) 25 (nI (lvs A + 1)))) (upd_ne (by decide))
      have hP5 : PS g _ (upd (upd z 23 (nI (A.length + 1))) 25 (nI (lvs A + 1))) s tf tl la (A ++ [(1, t.2.2.2)]) := ⟨t5, by rw [upd_ne (by decide), upd_eq]; simp, by rw [upd_ne (by decide), upd_ne (by decide)]; exact hP.2.2.1, by rw [upd_eq, lvs_app]; rfl⟩
      have hk5 : TkM tb tl ky (upd (upd z 23 (nI (A.length + 1))) 25 (nI (lvs A + 1))) (t :: r) := hk.c (fun k h1 h2 => (upd_ne (by omega)).trans (upd_ne (by omega)))
      refine ex_aload_n (pc := 78) dX7_part0_78 rfl ?_
      refine cx_VL0v (pc := 79) dX7_part0_79 lk_X7_320 t5.1.1 rfl (Nat.le_of_ble_eq_true rfl) (Nat.le_of_ble_eq_true rfl) (by omega) (c_M_nx t5 hB hk5 (by omega) (by omega)) (fun h_79 q_79 => ?_)
      obtain ⟨z6, t6, k6, tk6, f6⟩ := q_79
      refine ex_iconst (pc := 82) (v := 1) dX7_part0_82 (by decide) ?_
      refine ex_zret dX7_part0_83 rfl (by first | exact Or.inl rfl | exact Or.inr rfl | exact bI_01 _) ?_
      have e1 : pr (f + 1) 6 (t :: r) D u = (true, r, [(1, t.2.2.2)]) := by
        rw [pr, if_pos rfl]
        unfold prP
        dsimp only
        rw [if_pos (by omega), hkd]
      rw [e1]
      refine qi_mk ⟨z6, ((zP.up (k := 23) (by omega) (by omega)).tr (zP.up (k := 25) (by omega) (by omega))).tr k6.p, tk6, (f4.tr (FrX.st (Or.inl rfl) (nscr (by omega)))).tr (c75_76 f6), fun _ => ⟨rfl, hP5.k k6 t6, ?_, ?_⟩, fun y => (by cases y)⟩
      · rw [k6 21 (by omega), upd_ne (by decide), upd_ne (by decide)]; exact h21
      · rw [k6 22 (by omega), upd_ne (by decide), upd_ne (by decide)]; exact h22
    · by_cases hv33 : t.2.2.2 = 33
      · by_cases hu8 : u < 8
        · skip
          refine ex_aload_n (pc := 0) dX7_part0_0 rfl ?_
          refine ex_get (pc := 1) dX7_part0_1 fl_X7_283 hP.1.1.1 rfl ?_
          refine ex_iconst (pc := 4) (v := (nI 2)) dX7_part0_4 (by decide) ?_
          refine bx_icmp_ne_t (pc := 5) (tgt := 33) dX7_part0_5 (by decide) (by rw [h18]; decide) ?_
          refine ex_aload_n (pc := 33) dX7_part0_33 rfl ?_
          refine ex_get (pc := 34) dX7_part0_34 fl_X7_283 hP.1.1.1 rfl ?_
          refine ex_iconst (pc := 37) (v := (nI 1)) dX7_part0_37 (by decide) ?_
          refine bx_icmp_ne_t (pc := 38) (tgt := 84) dX7_part0_38 (by decide) (by rw [h18]; decide) ?_
          refine ex_aload_n (pc := 84) dX7_part0_84 rfl ?_
          refine ex_bipush (pc := 85) (v := (nI 33)) dX7_part0_85 (by decide) ?_
          refine cx_VL1i (pc := 87) dX7_part0_87 lk_X7_317 hP.1.1.1 rfl (Nat.le_of_ble_eq_true rfl) (Nat.le_of_ble_eq_true rfl) (by omega) (c_M_isSign hP.1 hB hk (c := 33) (by decide)) (fun h_87 x_87 q_87 => ?_)
          obtain ⟨e_87, f_87⟩ := q_87
          rw [e_87, f_87]
          refine bx_if_eq_f (pc := 90) (tgt := 145) dX7_part0_90 (by decide) (by rw [bI_t (show sgB (t :: r) 33 = true from decide_eq_true ⟨hkd, hv33⟩)]; decide) ?_
          refine ex_aload_n (pc := 93) dX7_part0_93 rfl ?_
          refine ex_get (pc := 94) dX7_part0_94 fl_X7_345 hP.1.1.1 rfl ?_
          refine ex_bipush (pc := 97) (v := (nI 8)) dX7_part0_97 (by decide) ?_
          refine bx_icmp_ge_f (pc := 99) (tgt := 145) dX7_part0_99 (by decide) (by rw [h22]; exact nI_ge hu8 (by omega)) ?_
          refine ex_aload_n (pc := 102) dX7_part0_102 rfl ?_
          refine ex_dup (pc := 103) dX7_part0_103 rfl ?_
          refine ex_get (pc := 104) dX7_part0_104 fl_X7_345 hP.1.1.1 rfl ?_
          rw [h22]
          refine ex_iconst (pc := 107) (v := (nI 1)) dX7_part0_107 (by decide) ?_
          refine ex_iadd (pc := 108) dX7_part0_108 ?_
          refine ex_put (pc := 109) dX7_part0_109 fp_X7_345 hP.1.1.1 (Nat.le_of_ble_eq_true rfl) rfl rfl ?_
          rw [mo_22, nI_add]
          have t2 := hP.1.z (z' := (upd z 22 (nI (u + 1)))) (upd_ne (by decide))
          have hk2 : TkM tb tl ky (upd z 22 (nI (u + 1))) (t :: r) := hk.c (fun k h1 h2 => upd_ne (by omega))
          have hP2 : PS g _ (upd z 22 (nI (u + 1))) s tf tl la A := ⟨t2, (upd_ne (by decide)).trans hP.2.1, (upd_ne (by decide)).trans hP.2.2.1, (upd_ne (by decide)).trans hP.2.2.2⟩
          refine ex_aload_n (pc := 112) dX7_part0_112 rfl ?_
          refine cx_VL0v (pc := 113) dX7_part0_113 lk_X7_320 t2.1.1 rfl (Nat.le_of_ble_eq_true rfl) (Nat.le_of_ble_eq_true rfl) (by omega) (c_M_nx t2 hB hk2 (by omega) (by omega)) (fun h_113 q_113 => ?_)
          obtain ⟨z3, t3, k3, tk3, f3⟩ := q_113
          have hP3 := hP2.k k3 t3
          refine ex_aload_n (pc := 116) dX7_part0_116 rfl ?_
          refine ex_iload_n (pc := 117) dX7_part0_117 rfl ?_
          refine cx_VL1i (pc := 118) dX7_part0_118 lk_X7_336 t3.1.1 rfl (Nat.le_of_ble_eq_true rfl) (Nat.le_of_ble_eq_true rfl) (by omega) (Hp (d - 1) 0 r D (u + 1) A h_113 z3 hP3 tk3 (by rw [k3 21 (by omega), upd_ne (by decide)]; exact h21) (by rw [k3 22 (by omega), upd_eq]) hD (by omega) (by rw [List.length_cons] at hlen; omega) (by rw [List.length_cons] at hf; unfold nee at hf ⊢; rw [if_pos (by omega)] at hf; rw [if_pos (by omega)]; omega) (by unfold frm at hd ⊢; omega)) (fun h_118 x_118 q_118 => ?_)
          obtain ⟨z4, zp4, tk4, f4, ok4, no4⟩ := q_118
          refine ex_if_ne (pc := 121) (tgt := 126) dX7_part0_121 (by decide) (fun c_121 => ?_) (fun c_121 => ?_)
          · skip
            have hx : (pr f 6 r D (u + 1)).1 = true := by
              cases e : (pr f 6 r D (u + 1)).1 with
              | true => rfl
              | false => exact absurd (no4 e).1 c_121
            obtain ⟨-, hP4, h21c, h22c⟩ := ok4 hx
            have hlen4 := prLen f 6 r D (u + 1)
            refine ex_aload_n (pc := 126) dX7_part0_126 rfl ?_
            refine ex_dup (pc := 127) dX7_part0_127 rfl ?_
            refine ex_get (pc := 128) dX7_part0_128 fl_X7_345 hP4.1.1.1 rfl ?_
            rw [h22c]
            refine ex_iconst (pc := 131) (v := (nI 1)) dX7_part0_131 (by decide) ?_
            refine ex_isub (pc := 132) dX7_part0_132 ?_
            refine ex_put (pc := 133) dX7_part0_133 fp_X7_345 hP4.1.1.1 (Nat.le_of_ble_eq_true rfl) rfl rfl ?_
            rw [mo_22, nI_sub (by omega), Nat.add_sub_cancel]
            have t5 := hP4.1.z (z' := upd z4 22 (nI u)) (upd_ne (by decide))
            have hP5 : PS g _ (upd z4 22 (nI u)) s tf tl la (A ++ (pr f 6 r D (u + 1)).2.2) := ⟨t5, (upd_ne (by decide)).trans hP4.2.1, (upd_ne (by decide)).trans hP4.2.2.1, (upd_ne (by decide)).trans hP4.2.2.2⟩
            refine ex_aload_n (pc := 136) dX7_part0_136 rfl ?_
            refine ex_iconst (pc := 137) (v := (nI 2)) dX7_part0_137 (by decide) ?_
            refine ex_bipush (pc := 138) (v := (nI 33)) dX7_part0_138 (by decide) ?_
            refine cx_VL2v (pc := 140) dX7_part0_140 lk_X7_323 hP5.1.1.1 rfl (Nat.le_of_ble_eq_true rfl) (Nat.le_of_ble_eq_true rfl) (by omega) (c_M_step hP5 (by rw [List.length_append]; rw [List.length_cons] at hlen; omega) 2 33) (fun h_140 q_140 => ?_)
            obtain ⟨t6, f6⟩ := q_140
            have hP6 := hP5.sg t6
            refine ex_iconst (pc := 143) (v := 1) dX7_part0_143 (by decide) ?_
            refine ex_zret dX7_part0_144 rfl (by first | exact Or.inl rfl | exact Or.inr rfl | exact bI_01 _) ?_
            have e1 : pr (f + 1) 6 (t :: r) D u = (true, (pr f 6 r D (u + 1)).2.1, (pr f 6 r D (u + 1)).2.2 ++ [(2, 33)]) := by
              rw [pr, if_pos rfl]
              unfold prP prB
              dsimp only
              rw [if_neg (by omega), if_pos ⟨hkd, hv33, hu8⟩, if_pos hx]
            rw [e1]
            refine qi_mk ⟨_, (((zP.up (k := 22) (by omega) (by omega)).tr k3.p).tr zp4).tr ((zP.up (k := 22) (v := nI u) (by omega) (by omega)).tr (zP.up (k := 23) (by omega) (by omega))), (tk4.c (fun k h1 h2 => upd_ne (by omega))).c (fun k h1 h2 => upd_ne (by omega)), ((((FrX.st (Or.inl rfl) (nscr (by omega))).tr (c75_76 f3)).tr f4).tr (FrX.st (Or.inl rfl) (nscr (by omega)))).tr f6, fun _ => ⟨rfl, by rw [← List.append_assoc]; exact hP6, ?_, ?_⟩, fun y => (by cases y)⟩
            · rw [upd_ne (by decide), upd_ne (by decide)]; exact h21c
            · rw [upd_ne (by decide), upd_eq]
          · skip
            refine ex_iconst (pc := 124) (v := 0) dX7_part0_124 (by decide) ?_
            refine ex_zret dX7_part0_125 rfl (by first | exact Or.inl rfl | exact Or.inr rfl | exact bI_01 _) ?_
            have hx : (pr f 6 r D (u + 1)).1 = false := by
              cases e : (pr f 6 r D (u + 1)).1 with
              | false => rfl
              | true => exact absurd (ok4 e).1 (by rw [c_121]; decide)
            have e1 : pr (f + 1) 6 (t :: r) D u = (false, (pr f 6 r D (u + 1)).2.1, []) := by
              rw [pr, if_pos rfl]
              unfold prP prB
              dsimp only
              rw [if_neg (by omega), if_pos ⟨hkd, hv33, hu8⟩, if_neg (by rw [hx]; decide)]
            obtain ⟨-, A', hA', hT'⟩ := no4 hx
            rw [e1]
            exact qi_mk ⟨z4, ((zP.up (k := 22) (by omega) (by omega)).tr k3.p).tr zp4, tk4, ((FrX.st (Or.inl rfl) (nscr (by omega))).tr (c75_76 f3)).tr f4, fun y => (by cases y), fun _ => ⟨rfl, A', hA', hT'⟩⟩
        · have hv40 : ¬ t.2.2.2 = 40 := by omega
          refine ex_aload_n (pc := 0) dX7_part0_0 rfl ?_
          refine ex_get (pc := 1) dX7_part0_1 fl_X7_283 hP.1.1.1 rfl ?_
          refine ex_iconst (pc := 4) (v := (nI 2)) dX7_part0_4 (by decide) ?_
          refine bx_icmp_ne_t (pc := 5) (tgt := 33) dX7_part0_5 (by decide) (by rw [h18]; decide) ?_
          refine ex_aload_n (pc := 33) dX7_part0_33 rfl ?_
          refine ex_get (pc := 34) dX7_part0_34 fl_X7_283 hP.1.1.1 rfl ?_
          refine ex_iconst (pc := 37) (v := (nI 1)) dX7_part0_37 (by decide) ?_
          refine bx_icmp_ne_t (pc := 38) (tgt := 84) dX7_part0_38 (by decide) (by rw [h18]; decide) ?_
          refine ex_aload_n (pc := 84) dX7_part0_84 rfl ?_
          refine ex_bipush (pc := 85) (v := (nI 33)) dX7_part0_85 (by decide) ?_
          refine cx_VL1i (pc := 87) dX7_part0_87 lk_X7_317 hP.1.1.1 rfl (Nat.le_of_ble_eq_true rfl) (Nat.le_of_ble_eq_true rfl) (by omega) (c_M_isSign hP.1 hB hk (c := 33) (by decide)) (fun h_87 x_87 q_87 => ?_)
          obtain ⟨e_87, f_87⟩ := q_87
          rw [e_87, f_87]
          refine bx_if_eq_f (pc := 90) (tgt := 145) dX7_part0_90 (by decide) (by rw [bI_t (show sgB (t :: r) 33 = true from decide_eq_true ⟨hkd, hv33⟩)]; decide) ?_
          refine ex_aload_n (pc := 93) dX7_part0_93 rfl ?_
          refine ex_get (pc := 94) dX7_part0_94 fl_X7_345 hP.1.1.1 rfl ?_
          refine ex_bipush (pc := 97) (v := (nI 8)) dX7_part0_97 (by decide) ?_
          refine bx_icmp_ge_t (pc := 99) (tgt := 145) dX7_part0_99 (by decide) (by rw [h22]; exact nI_le (by omega) (by omega)) ?_
          refine ex_aload_n (pc := 145) dX7_part0_145 rfl ?_
          refine ex_bipush (pc := 146) (v := (nI 40)) dX7_part0_146 (by decide) ?_
          refine cx_VL1i (pc := 148) dX7_part0_148 lk_X7_317 hP.1.1.1 rfl (Nat.le_of_ble_eq_true rfl) (Nat.le_of_ble_eq_true rfl) (by omega) (c_M_isSign hP.1 hB hk (c := 40) (by decide)) (fun h_148 x_148 q_148 => ?_)
          obtain ⟨e_148, f_148⟩ := q_148
          rw [e_148, f_148]
          refine bx_if_eq_t (pc := 151) (tgt := 163) dX7_part0_151 (by decide) (bI_f (by rw [sg_ne hv40]; decide)) ?_
          refine ex_iconst (pc := 163) (v := 0) dX7_part0_163 (by decide) ?_
          refine ex_zret dX7_part0_164 rfl (by first | exact Or.inl rfl | exact Or.inr rfl | exact bI_01 _) ?_
          have e1 : pr (f + 1) 6 (t :: r) D u = (false, t :: r, []) := by
            rw [pr, if_pos rfl]
            unfold prP
            dsimp only
            rw [if_neg (by omega), if_neg (fun y => hu8 y.2.2), if_neg (fun y => hv40 y.2.1)]
          rw [e1]
          exact qi_mk ⟨z, zP.rf, hk, FrX.rf, fun y => (by cases y), fun _ => ⟨rfl, A, by omega, hP.1⟩⟩
      · by_cases hv40 : t.2.2.2 = 40
        · by_cases hD8 : D < 8
          · skip
            refine ex_aload_n (pc := 0) dX7_part0_0 rfl ?_
            refine ex_get (pc := 1) dX7_part0_1 fl_X7_283 hP.1.1.1 rfl ?_
            refine ex_iconst (pc := 4) (v := (nI 2)) dX7_part0_4 (by decide) ?_
            refine bx_icmp_ne_t (pc := 5) (tgt := 33) dX7_part0_5 (by decide) (by rw [h18]; decide) ?_
            refine ex_aload_n (pc := 33) dX7_part0_33 rfl ?_
            refine ex_get (pc := 34) dX7_part0_34 fl_X7_283 hP.1.1.1 rfl ?_
            refine ex_iconst (pc := 37) (v := (nI 1)) dX7_part0_37 (by decide) ?_
            refine bx_icmp_ne_t (pc := 38) (tgt := 84) dX7_part0_38 (by decide) (by rw [h18]; decide) ?_
            refine ex_aload_n (pc := 84) dX7_part0_84 rfl ?_
            refine ex_bipush (pc := 85) (v := (nI 33)) dX7_part0_85 (by decide) ?_
            refine cx_VL1i (pc := 87) dX7_part0_87 lk_X7_317 hP.1.1.1 rfl (Nat.le_of_ble_eq_true rfl) (Nat.le_of_ble_eq_true rfl) (by omega) (c_M_isSign hP.1 hB hk (c := 33) (by decide)) (fun h_87 x_87 q_87 => ?_)
            obtain ⟨e_87, f_87⟩ := q_87
            rw [e_87, f_87]
            refine bx_if_eq_t (pc := 90) (tgt := 145) dX7_part0_90 (by decide) (bI_f (by rw [sg_ne hv33]; decide)) ?_
            refine ex_aload_n (pc := 145) dX7_part0_145 rfl ?_
            refine ex_bipush (pc := 146) (v := (nI 40)) dX7_part0_146 (by decide) ?_
            refine cx_VL1i (pc := 148) dX7_part0_148 lk_X7_317 hP.1.1.1 rfl (Nat.le_of_ble_eq_true rfl) (Nat.le_of_ble_eq_true rfl) (by omega) (c_M_isSign hP.1 hB hk (c := 40) (by decide)) (fun h_148 x_148 q_148 => ?_)
            obtain ⟨e_148, f_148⟩ := q_148
            rw [e_148, f_148]
            refine bx_if_eq_f (pc := 151) (tgt := 163) dX7_part0_151 (by decide) (by rw [bI_t (show sgB (t :: r) 40 = true from decide_eq_true ⟨hkd, hv40⟩)]; decide) ?_
            refine ex_aload_n (pc := 154) dX7_part0_154 rfl ?_
            refine ex_get (pc := 155) dX7_part0_155 fl_X7_348 hP.1.1.1 rfl ?_
            refine ex_bipush (pc := 158) (v := (nI 8)) dX7_part0_158 (by decide) ?_
            refine bx_icmp_ne_t (pc := 160) (tgt := 165) dX7_part0_160 (by decide) (by rw [h21]; exact fun y => absurd ((nI_eq (by omega) (by omega)).mp y) (by omega)) ?_
            refine ex_aload_n (pc := 165) dX7_part0_165 rfl ?_
            refine ex_dup (pc := 166) dX7_part0_166 rfl ?_
            refine ex_get (pc := 167) dX7_part0_167 fl_X7_348 hP.1.1.1 rfl ?_
            rw [h21]
            refine ex_iconst (pc := 170) (v := (nI 1)) dX7_part0_170 (by decide) ?_
            refine ex_iadd (pc := 171) dX7_part0_171 ?_
            refine ex_put (pc := 172) dX7_part0_172 fp_X7_348 hP.1.1.1 (Nat.le_of_ble_eq_true rfl) rfl rfl ?_
            rw [mo_21, nI_add]
            have t2 := hP.1.z (z' := (upd z 21 (nI (D + 1)))) (upd_ne (by decide))
            have hk2 : TkM tb tl ky (upd z 21 (nI (D + 1))) (t :: r) := hk.c (fun k h1 h2 => upd_ne (by omega))
            have hP2 : PS g _ (upd z 21 (nI (D + 1))) s tf tl la A := ⟨t2, (upd_ne (by decide)).trans hP.2.1, (upd_ne (by decide)).trans hP.2.2.1, (upd_ne (by decide)).trans hP.2.2.2⟩
            refine ex_aload_n (pc := 175) dX7_part0_175 rfl ?_
            refine cx_VL0v (pc := 176) dX7_part0_176 lk_X7_320 t2.1.1 rfl (Nat.le_of_ble_eq_true rfl) (Nat.le_of_ble_eq_true rfl) (by omega) (c_M_nx t2 hB hk2 (by omega) (by omega)) (fun h_176 q_176 => ?_)
            obtain ⟨z3, t3, k3, tk3, f3⟩ := q_176
            have hP3 := hP2.k k3 t3
            refine ex_aload_n (pc := 179) dX7_part0_179 rfl ?_
            refine ex_iload_n (pc := 180) dX7_part0_180 rfl ?_
            refine cx_VL1i (pc := 181) dX7_part0_181 lk_X7_351 t3.1.1 rfl (Nat.le_of_ble_eq_true rfl) (Nat.le_of_ble_eq_true rfl) (by omega) (He (d - 1) 0 r (D + 1) u A h_176 z3 hP3 tk3 (by rw [k3 21 (by omega), upd_eq]) (by rw [k3 22 (by omega), upd_ne (by decide)]; exact h22) (by omega) hu (by rw [List.length_cons] at hlen; omega) (by rw [List.length_cons] at hf; unfold nee at hf ⊢; rw [if_pos (by omega)] at hf; rw [if_pos (by omega)]; omega) (by unfold frm at hd ⊢; omega)) (fun h_181 x_181 q_181 => ?_)
            obtain ⟨z4, zp4, tk4, f4, ok4, no4⟩ := q_181
            refine ex_if_eq (pc := 184) (tgt := 196) dX7_part0_184 (by decide) (fun c_184 => ?_) (fun c_184 => ?_)
            · skip
              refine ex_iconst (pc := 196) (v := 0) dX7_part0_196 (by decide) ?_
              refine ex_zret dX7_part0_197 rfl (by first | exact Or.inl rfl | exact Or.inr rfl | exact bI_01 _) ?_
              have hx : (pr f 1 r (D + 1) u).1 = false := by
                cases e : (pr f 1 r (D + 1) u).1 with
                | false => rfl
                | true => exact absurd (ok4 e).1 (by rw [c_184]; decide)
              have e1 : pr (f + 1) 6 (t :: r) D u = (false, (pr f 1 r (D + 1) u).2.1, []) := by
                rw [pr, if_pos rfl]
                unfold prP prR
                dsimp only
                rw [if_neg (by omega), if_neg (fun y => hv33 y.2.1), if_pos ⟨hkd, hv40, hD8⟩, if_neg (by rw [hx]; decide)]
              obtain ⟨-, A', hA', hT'⟩ := no4 hx
              rw [e1]
              exact qi_mk ⟨z4, ((zP.up (k := 21) (by omega) (by omega)).tr k3.p).tr zp4, tk4, ((FrX.st (Or.inl rfl) (nscr (by omega))).tr (c75_76 f3)).tr f4, fun y => (by cases y), fun _ => ⟨rfl, A', hA', hT'⟩⟩
            · skip
              have hx : (pr f 1 r (D + 1) u).1 = true := by
                cases e : (pr f 1 r (D + 1) u).1 with
                | true => rfl
                | false => exact absurd (no4 e).1 c_184
              obtain ⟨-, hP4, h21c, h22c⟩ := ok4 hx
              have hlen4 := prLen f 1 r (D + 1) u
              refine ex_aload_n (pc := 187) dX7_part0_187 rfl ?_
              refine ex_bipush (pc := 188) (v := (nI 41)) dX7_part0_188 (by decide) ?_
              refine cx_VL1i (pc := 190) dX7_part0_190 lk_X7_317 hP4.1.1.1 rfl (Nat.le_of_ble_eq_true rfl) (Nat.le_of_ble_eq_true rfl) (by omega) (c_M_isSign hP4.1 hB tk4 (c := 41) (by decide)) (fun h_190 x_190 q_190 => ?_)
              obtain ⟨e_190, f_190⟩ := q_190
              rw [e_190, f_190]
              refine ex_if_ne (pc := 193) (tgt := 198) dX7_part0_193 (by decide) (fun c_193 => ?_) (fun c_193 => ?_)
              · skip
                have b_193 := bT c_193
                obtain ⟨t', r', hr, hk', hv'⟩ : ∃ t' r', (pr f 1 r (D + 1) u).2.1 = t' :: r' ∧ t'.2.2.1 = 2 ∧ t'.2.2.2 = 41 := by
                  cases hr : (pr f 1 r (D + 1) u).2.1 with
                  | nil => rw [hr] at b_193; cases b_193
                  | cons t' r' =>
                    rw [hr] at b_193
                    exact ⟨t', r', rfl, of_decide_eq_true b_193⟩
                refine ex_aload_n (pc := 198) dX7_part0_198 rfl ?_
                refine ex_dup (pc := 199) dX7_part0_199 rfl ?_
                refine ex_get (pc := 200) dX7_part0_200 fl_X7_348 hP4.1.1.1 rfl ?_
                rw [h21c]
                refine ex_iconst (pc := 203) (v := (nI 1)) dX7_part0_203 (by decide) ?_
                refine ex_isub (pc := 204) dX7_part0_204 ?_
                refine ex_put (pc := 205) dX7_part0_205 fp_X7_348 hP4.1.1.1 (Nat.le_of_ble_eq_true rfl) rfl rfl ?_
                rw [mo_21, nI_sub (by omega), Nat.add_sub_cancel]
                have t5 := hP4.1.z (z' := upd z4 21 (nI D)) (upd_ne (by decide))
                have hP5 : PS g _ (upd z4 21 (nI D)) s tf tl la (A ++ (pr f 1 r (D + 1) u).2.2) := ⟨t5, (upd_ne (by decide)).trans hP4.2.1, (upd_ne (by decide)).trans hP4.2.2.1, (upd_ne (by decide)).trans hP4.2.2.2⟩
                have hk5 : TkM tb tl ky (upd z4 21 (nI D)) (t' :: r') := (hr ▸ tk4 : TkM tb tl ky z4 (t' :: r')).c (fun k h1 h2 => upd_ne (by omega))
                refine ex_aload_n (pc := 208) dX7_part0_208 rfl ?_
                refine cx_VL0v (pc := 209) dX7_part0_209 lk_X7_320 t5.1.1 rfl (Nat.le_of_ble_eq_true rfl) (Nat.le_of_ble_eq_true rfl) (by omega) (c_M_nx t5 hB hk5 (by omega) (by omega)) (fun h_209 q_209 => ?_)
                obtain ⟨z6, t6, k6, tk6, f6⟩ := q_209
                refine ex_iconst (pc := 212) (v := 1) dX7_part0_212 (by decide) ?_
                refine ex_zret dX7_part0_213 rfl (by first | exact Or.inl rfl | exact Or.inr rfl | exact bI_01 _) ?_
                have e1 : pr (f + 1) 6 (t :: r) D u = (true, r', (pr f 1 r (D + 1) u).2.2) := by
                  rw [pr, if_pos rfl]
                  unfold prP prR
                  dsimp only
                  rw [if_neg (by omega), if_neg (fun y => hv33 y.2.1), if_pos ⟨hkd, hv40, hD8⟩, if_pos hx, hr]
                  dsimp only
                  rw [if_pos ⟨hk', hv'⟩]
                rw [e1]
                refine qi_mk ⟨z6, ((((zP.up (k := 21) (by omega) (by omega)).tr k3.p).tr zp4).tr (zP.up (k := 21) (v := nI D) (by omega) (by omega))).tr k6.p, tk6, ((((FrX.st (Or.inl rfl) (nscr (by omega))).tr (c75_76 f3)).tr f4).tr (FrX.st (Or.inl rfl) (nscr (by omega)))).tr (c75_76 f6), fun _ => ⟨rfl, hP5.k k6 t6, ?_, ?_⟩, fun y => (by cases y)⟩
                · rw [k6 21 (by omega), upd_eq]
                · rw [k6 22 (by omega), upd_ne (by decide)]; exact h22c
              · skip
                have b_193 := bF c_193
                refine ex_iconst (pc := 196) (v := 0) dX7_part0_196 (by decide) ?_
                refine ex_zret dX7_part0_197 rfl (by first | exact Or.inl rfl | exact Or.inr rfl | exact bI_01 _) ?_
                have e1 : pr (f + 1) 6 (t :: r) D u = (false, (pr f 1 r (D + 1) u).2.1, []) := by
                  rw [pr, if_pos rfl]
                  unfold prP prR
                  dsimp only
                  rw [if_neg (by omega), if_neg (fun y => hv33 y.2.1), if_pos ⟨hkd, hv40, hD8⟩, if_pos hx]
                  cases hr : (pr f 1 r (D + 1) u).2.1 with
                  | nil => rfl
                  | cons t' r' =>
                    rw [hr] at b_193
                    dsimp only
                    rw [if_neg (of_decide_eq_false b_193)]
                rw [e1]
                exact qi_mk ⟨z4, ((zP.up (k := 21) (by omega) (by omega)).tr k3.p).tr zp4, tk4, ((FrX.st (Or.inl rfl) (nscr (by omega))).tr (c75_76 f3)).tr f4, fun y => (by cases y), fun _ => ⟨rfl, _, by rw [List.length_append]; rw [List.length_cons] at hlen; omega, hP4.1⟩⟩
          · skip
            refine ex_aload_n (pc := 0) dX7_part0_0 rfl ?_
            refine ex_get (pc := 1) dX7_part0_1 fl_X7_283 hP.1.1.1 rfl ?_
            refine ex_iconst (pc := 4) (v := (nI 2)) dX7_part0_4 (by decide) ?_
            refine bx_icmp_ne_t (pc := 5) (tgt := 33) dX7_part0_5 (by decide) (by rw [h18]; decide) ?_
            refine ex_aload_n (pc := 33) dX7_part0_33 rfl ?_
            refine ex_get (pc := 34) dX7_part0_34 fl_X7_283 hP.1.1.1 rfl ?_
            refine ex_iconst (pc := 37) (v := (nI 1)) dX7_part0_37 (by decide) ?_
            refine bx_icmp_ne_t (pc := 38) (tgt := 84) dX7_part0_38 (by decide) (by rw [h18]; decide) ?_
            refine ex_aload_n (pc := 84) dX7_part0_84 rfl ?_
            refine ex_bipush (pc := 85) (v := (nI 33)) dX7_part0_85 (by decide) ?_
            refine cx_VL1i (pc := 87) dX7_part0_87 lk_X7_317 hP.1.1.1 rfl (Nat.le_of_ble_eq_true rfl) (Nat.le_of_ble_eq_true rfl) (by omega) (c_M_isSign hP.1 hB hk (c := 33) (by decide)) (fun h_87 x_87 q_87 => ?_)
            obtain ⟨e_87, f_87⟩ := q_87
            rw [e_87, f_87]
            refine bx_if_eq_t (pc := 90) (tgt := 145) dX7_part0_90 (by decide) (bI_f (by rw [sg_ne hv33]; decide)) ?_
            refine ex_aload_n (pc := 145) dX7_part0_145 rfl ?_
            refine ex_bipush (pc := 146) (v := (nI 40)) dX7_part0_146 (by decide) ?_
            refine cx_VL1i (pc := 148) dX7_part0_148 lk_X7_317 hP.1.1.1 rfl (Nat.le_of_ble_eq_true rfl) (Nat.le_of_ble_eq_true rfl) (by omega) (c_M_isSign hP.1 hB hk (c := 40) (by decide)) (fun h_148 x_148 q_148 => ?_)
            obtain ⟨e_148, f_148⟩ := q_148
            rw [e_148, f_148]
            refine bx_if_eq_f (pc := 151) (tgt := 163) dX7_part0_151 (by decide) (by rw [bI_t (show sgB (t :: r) 40 = true from decide_eq_true ⟨hkd, hv40⟩)]; decide) ?_
            refine ex_aload_n (pc := 154) dX7_part0_154 rfl ?_
            refine ex_get (pc := 155) dX7_part0_155 fl_X7_348 hP.1.1.1 rfl ?_
            refine ex_bipush (pc := 158) (v := (nI 8)) dX7_part0_158 (by decide) ?_
            refine bx_icmp_ne_f (pc := 160) (tgt := 165) dX7_part0_160 (by decide) (by rw [h21, show D = 8 by omega]) ?_
            refine ex_iconst (pc := 163) (v := 0) dX7_part0_163 (by decide) ?_
            refine ex_zret dX7_part0_164 rfl (by first | exact Or.inl rfl | exact Or.inr rfl | exact bI_01 _) ?_
            have e1 : pr (f + 1) 6 (t :: r) D u = (false, t :: r, []) := by
              rw [pr, if_pos rfl]
              unfold prP
              dsimp only
              rw [if_neg (by omega), if_neg (fun y => hv33 y.2.1), if_neg (fun y => hD8 y.2.2)]
            rw [e1]
            exact qi_mk ⟨z, zP.rf, hk, FrX.rf, fun y => (by cases y), fun _ => ⟨rfl, A, by omega, hP.1⟩⟩
        · skip
          refine ex_aload_n (pc := 0) dX7_part0_0 rfl ?_
          refine ex_get (pc := 1) dX7_part0_1 fl_X7_283 hP.1.1.1 rfl ?_
          refine ex_iconst (pc := 4) (v := (nI 2)) dX7_part0_4 (by decide) ?_
          refine bx_icmp_ne_t (pc := 5) (tgt := 33) dX7_part0_5 (by decide) (by rw [h18]; decide) ?_
          refine ex_aload_n (pc := 33) dX7_part0_33 rfl ?_
          refine ex_get (pc := 34) dX7_part0_34 fl_X7_283 hP.1.1.1 rfl ?_
          refine ex_iconst (pc := 37) (v := (nI 1)) dX7_part0_37 (by decide) ?_
          refine bx_icmp_ne_t (pc := 38) (tgt := 84) dX7_part0_38 (by decide) (by rw [h18]; decide) ?_
          refine ex_aload_n (pc := 84) dX7_part0_84 rfl ?_
          refine ex_bipush (pc := 85) (v := (nI 33)) dX7_part0_85 (by decide) ?_
          refine cx_VL1i (pc := 87) dX7_part0_87 lk_X7_317 hP.1.1.1 rfl (Nat.le_of_ble_eq_true rfl) (Nat.le_of_ble_eq_true rfl) (by omega) (c_M_isSign hP.1 hB hk (c := 33) (by decide)) (fun h_87 x_87 q_87 => ?_)
          obtain ⟨e_87, f_87⟩ := q_87
          rw [e_87, f_87]
          refine bx_if_eq_t (pc := 90) (tgt := 145) dX7_part0_90 (by decide) (bI_f (by rw [sg_ne hv33]; decide)) ?_
          refine ex_aload_n (pc := 145) dX7_part0_145 rfl ?_
          refine ex_bipush (pc := 146) (v := (nI 40)) dX7_part0_146 (by decide) ?_
          refine cx_VL1i (pc := 148) dX7_part0_148 lk_X7_317 hP.1.1.1 rfl (Nat.le_of_ble_eq_true rfl) (Nat.le_of_ble_eq_true rfl) (by omega) (c_M_isSign hP.1 hB hk (c := 40) (by decide)) (fun h_148 x_148 q_148 => ?_)
          obtain ⟨e_148, f_148⟩ := q_148
          rw [e_148, f_148]
          refine bx_if_eq_t (pc := 151) (tgt := 163) dX7_part0_151 (by decide) (bI_f (by rw [sg_ne hv40]; decide)) ?_
          refine ex_iconst (pc := 163) (v := 0) dX7_part0_163 (by decide) ?_
          refine ex_zret dX7_part0_164 rfl (by first | exact Or.inl rfl | exact Or.inr rfl | exact bI_01 _) ?_
          have e1 : pr (f + 1) 6 (t :: r) D u = (false, t :: r, []) := by
            rw [pr, if_pos rfl]
            unfold prP
            dsimp only
            rw [if_neg (by omega), if_neg (fun y => hv33 y.2.1), if_neg (fun y => hv40 y.2.1)]
          rw [e1]
          exact qi_mk ⟨z, zP.rf, hk, FrX.rf, fun y => (by cases y), fun _ => ⟨rfl, A, by omega, hP.1⟩⟩
    · rcases h4 with h18 | ⟨h18, c, hc1, hc2, hc3⟩
      · skip
        refine ex_aload_n (pc := 0) dX7_part0_0 rfl ?_
        refine ex_get (pc := 1) dX7_part0_1 fl_X7_283 hP.1.1.1 rfl ?_
        refine ex_iconst (pc := 4) (v := (nI 2)) dX7_part0_4 (by decide) ?_
        refine bx_icmp_ne_t (pc := 5) (tgt := 33) dX7_part0_5 (by decide) (by rw [h18]; decide) ?_
        refine ex_aload_n (pc := 33) dX7_part0_33 rfl ?_
        refine ex_get (pc := 34) dX7_part0_34 fl_X7_283 hP.1.1.1 rfl ?_
        refine ex_iconst (pc := 37) (v := (nI 1)) dX7_part0_37 (by decide) ?_
        refine bx_icmp_ne_t (pc := 38) (tgt := 84) dX7_part0_38 (by decide) (by rw [h18]; decide) ?_
        refine ex_aload_n (pc := 84) dX7_part0_84 rfl ?_
        refine ex_bipush (pc := 85) (v := (nI 33)) dX7_part0_85 (by decide) ?_
        refine cx_VL1i (pc := 87) dX7_part0_87 lk_X7_317 hP.1.1.1 rfl (Nat.le_of_ble_eq_true rfl) (Nat.le_of_ble_eq_true rfl) (by omega) (c_M_isSign hP.1 hB hk (c := 33) (by decide)) (fun h_87 x_87 q_87 => ?_)
        obtain ⟨e_87, f_87⟩ := q_87
        rw [e_87, f_87]
        refine bx_if_eq_t (pc := 90) (tgt := 145) dX7_part0_90 (by decide) (bI_f (by rw [show sgB (t :: r) 33 = false from decide_eq_false (fun y => by omega)]; decide)) ?_
        refine ex_aload_n (pc := 145) dX7_part0_145 rfl ?_
        refine ex_bipush (pc := 146) (v := (nI 40)) dX7_part0_146 (by decide) ?_
        refine cx_VL1i (pc := 148) dX7_part0_148 lk_X7_317 hP.1.1.1 rfl (Nat.le_of_ble_eq_true rfl) (Nat.le_of_ble_eq_true rfl) (by omega) (c_M_isSign hP.1 hB hk (c := 40) (by decide)) (fun h_148 x_148 q_148 => ?_)
        obtain ⟨e_148, f_148⟩ := q_148
        rw [e_148, f_148]
        refine bx_if_eq_t (pc := 151) (tgt := 163) dX7_part0_151 (by decide) (bI_f (by rw [show sgB (t :: r) 40 = false from decide_eq_false (fun y => by omega)]; decide)) ?_
        refine ex_iconst (pc := 163) (v := 0) dX7_part0_163 (by decide) ?_
        refine ex_zret dX7_part0_164 rfl (by first | exact Or.inl rfl | exact Or.inr rfl | exact bI_01 _) ?_
        have e1 : pr (f + 1) 6 (t :: r) D u = (false, t :: r, []) := by
          rw [pr, if_pos rfl]
          unfold prP
          dsimp only
          rw [if_neg (by omega), if_neg (fun y => by omega), if_neg (fun y => by omega)]
        rw [e1]
        exact qi_mk ⟨z, zP.rf, hk, FrX.rf, fun y => (by cases y), fun _ => ⟨rfl, A, by omega, hP.1⟩⟩
      · by_cases hc0 : c = 0
        · skip
          refine ex_aload_n (pc := 0) dX7_part0_0 rfl ?_
          refine ex_get (pc := 1) dX7_part0_1 fl_X7_283 hP.1.1.1 rfl ?_
          refine ex_iconst (pc := 4) (v := (nI 2)) dX7_part0_4 (by decide) ?_
          refine bx_icmp_ne_t (pc := 5) (tgt := 33) dX7_part0_5 (by decide) (by rw [h18]; decide) ?_
          refine ex_aload_n (pc := 33) dX7_part0_33 rfl ?_
          refine ex_get (pc := 34) dX7_part0_34 fl_X7_283 hP.1.1.1 rfl ?_
          refine ex_iconst (pc := 37) (v := (nI 1)) dX7_part0_37 (by decide) ?_
          refine bx_icmp_ne_f (pc := 38) (tgt := 84) dX7_part0_38 (by decide) (h18) ?_
          refine ex_aload_n (pc := 41) dX7_part0_41 rfl ?_
          refine ex_get (pc := 42) dX7_part0_42 fl_X7_292 hP.1.1.1 rfl ?_
          refine bx_if_eq_t (pc := 45) (tgt := 84) dX7_part0_45 (by decide) (by rw [hc1, hc0]; rfl) ?_
          refine ex_aload_n (pc := 84) dX7_part0_84 rfl ?_
          refine ex_bipush (pc := 85) (v := (nI 33)) dX7_part0_85 (by decide) ?_
          refine cx_VL1i (pc := 87) dX7_part0_87 lk_X7_317 hP.1.1.1 rfl (Nat.le_of_ble_eq_true rfl) (Nat.le_of_ble_eq_true rfl) (by omega) (c_M_isSign hP.1 hB hk (c := 33) (by decide)) (fun h_87 x_87 q_87 => ?_)
          obtain ⟨e_87, f_87⟩ := q_87
          rw [e_87, f_87]
          refine bx_if_eq_t (pc := 90) (tgt := 145) dX7_part0_90 (by decide) (bI_f (by rw [show sgB (t :: r) 33 = false from decide_eq_false (fun y => by omega)]; decide)) ?_
          refine ex_aload_n (pc := 145) dX7_part0_145 rfl ?_
          refine ex_bipush (pc := 146) (v := (nI 40)) dX7_part0_146 (by decide) ?_
          refine cx_VL1i (pc := 148) dX7_part0_148 lk_X7_317 hP.1.1.1 rfl (Nat.le_of_ble_eq_true rfl) (Nat.le_of_ble_eq_true rfl) (by omega) (c_M_isSign hP.1 hB hk (c := 40) (by decide)) (fun h_148 x_148 q_148 => ?_)
          obtain ⟨e_148, f_148⟩ := q_148
          rw [e_148, f_148]
          refine bx_if_eq_t (pc := 151) (tgt := 163) dX7_part0_151 (by decide) (bI_f (by rw [show sgB (t :: r) 40 = false from decide_eq_false (fun y => by omega)]; decide)) ?_
          refine ex_iconst (pc := 163) (v := 0) dX7_part0_163 (by decide) ?_
          refine ex_zret dX7_part0_164 rfl (by first | exact Or.inl rfl | exact Or.inr rfl | exact bI_01 _) ?_
          have e1 : pr (f + 1) 6 (t :: r) D u = (false, t :: r, []) := by
            rw [pr, if_pos rfl]
            unfold prP
            dsimp only
            rw [if_neg (by omega), if_neg (fun y => by omega), if_neg (fun y => by omega)]
          rw [e1]
          exact qi_mk ⟨z, zP.rf, hk, FrX.rf, fun y => (by cases y), fun _ => ⟨rfl, A, by omega, hP.1⟩⟩
        · have hn0 := hc3.resolve_left hc0
          refine ex_aload_n (pc := 0) dX7_part0_0 rfl ?_
          refine ex_get (pc := 1) dX7_part0_1 fl_X7_283 hP.1.1.1 rfl ?_
          refine ex_iconst (pc := 4) (v := (nI 2)) dX7_part0_4 (by decide) ?_
          refine bx_icmp_ne_t (pc := 5) (tgt := 33) dX7_part0_5 (by decide) (by rw [h18]; decide) ?_
          refine ex_aload_n (pc := 33) dX7_part0_33 rfl ?_
          refine ex_get (pc := 34) dX7_part0_34 fl_X7_283 hP.1.1.1 rfl ?_
          refine ex_iconst (pc := 37) (v := (nI 1)) dX7_part0_37 (by decide) ?_
          refine bx_icmp_ne_f (pc := 38) (tgt := 84) dX7_part0_38 (by decide) (h18) ?_
          refine ex_aload_n (pc := 41) dX7_part0_41 rfl ?_
          refine ex_get (pc := 42) dX7_part0_42 fl_X7_292 hP.1.1.1 rfl ?_
          refine bx_if_eq_f (pc := 45) (tgt := 84) dX7_part0_45 (by decide) (by rw [hc1]; exact nI_ne0 (by omega) (by omega)) ?_
          refine ex_iload_n (pc := 48) dX7_part0_48 rfl ?_
          refine ex_aload_n (pc := 49) dX7_part0_49 rfl ?_
          refine ex_get (pc := 50) dX7_part0_50 fl_X7_292 hP.1.1.1 rfl ?_
          rw [hc1]
          refine cx_SL2i (pc := 53) dX7_part0_53 lk_X7_342 rfl (Nat.le_of_ble_eq_true rfl) (Nat.le_of_ble_eq_true rfl) (by omega) (c_M_isName hky hc2) (fun h_53 x_53 q_53 => ?_)
          obtain ⟨e_53, f_53⟩ := q_53
          rw [e_53, f_53]
          refine bx_if_eq_t (pc := 56) (tgt := 84) dX7_part0_56 (by decide) (bI_f (by rw [hn0]; decide)) ?_
          refine ex_aload_n (pc := 84) dX7_part0_84 rfl ?_
          refine ex_bipush (pc := 85) (v := (nI 33)) dX7_part0_85 (by decide) ?_
          refine cx_VL1i (pc := 87) dX7_part0_87 lk_X7_317 hP.1.1.1 rfl (Nat.le_of_ble_eq_true rfl) (Nat.le_of_ble_eq_true rfl) (by omega) (c_M_isSign hP.1 hB hk (c := 33) (by decide)) (fun h_87 x_87 q_87 => ?_)
          obtain ⟨e_87, f_87⟩ := q_87
          rw [e_87, f_87]
          refine bx_if_eq_t (pc := 90) (tgt := 145) dX7_part0_90 (by decide) (bI_f (by rw [show sgB (t :: r) 33 = false from decide_eq_false (fun y => by omega)]; decide)) ?_
          refine ex_aload_n (pc := 145) dX7_part0_145 rfl ?_
          refine ex_bipush (pc := 146) (v := (nI 40)) dX7_part0_146 (by decide) ?_
          refine cx_VL1i (pc := 148) dX7_part0_148 lk_X7_317 hP.1.1.1 rfl (Nat.le_of_ble_eq_true rfl) (Nat.le_of_ble_eq_true rfl) (by omega) (c_M_isSign hP.1 hB hk (c := 40) (by decide)) (fun h_148 x_148 q_148 => ?_)
          obtain ⟨e_148, f_148⟩ := q_148
          rw [e_148, f_148]
          refine bx_if_eq_t (pc := 151) (tgt := 163) dX7_part0_151 (by decide) (bI_f (by rw [show sgB (t :: r) 40 = false from decide_eq_false (fun y => by omega)]; decide)) ?_
          refine ex_iconst (pc := 163) (v := 0) dX7_part0_163 (by decide) ?_
          refine ex_zret dX7_part0_164 rfl (by first | exact Or.inl rfl | exact Or.inr rfl | exact bI_01 _) ?_
          have e1 : pr (f + 1) 6 (t :: r) D u = (false, t :: r, []) := by
            rw [pr, if_pos rfl]
            unfold prP
            dsimp only
            rw [if_neg (by omega), if_neg (fun y => by omega), if_neg (fun y => by omega)]
          rw [e1]
          exact qi_mk ⟨z, zP.rf, hk, FrX.rf, fun y => (by cases y), fun _ => ⟨rfl, A, by omega, hP.1⟩⟩
theorem ct_all {g : Gl} {s tf : Nat → Int32} {tb : Nat → Nat} {tl la ky : Nat} (hB : TpOk tf tb) (hla : la + 194 ≤ 3090) (hky : ky < 3) : ∀ (F f : Nat), f ≤ F → CT g s tf tb tl la ky mX7_either [] f 1 ∧ CT g s tf tb tl la ky mX7_both [] f 2 ∧ CT g s tf tb tl la ky mX7_test [none] f 3 ∧ CT g s tf tb tl la ky mX7_sum [none] f 4 ∧ CT g s tf tb tl la ky mX7_term [none] f 5 ∧ CT g s tf tb tl la ky mX7_part0 [] f 6 := by
  intro F
  induction F with
  | zero =>
    intro f hf
    have e : f = 0 := by omega
    subst e
    have no : ∀ (M : Mt) (nn : List (Option Value)) (m : Nat), 1 ≤ m → m ≤ 6 → CT g s tf tb tl la ky M nn 0 m := fun M nn m h1 h2 d ks ts D u A h z _ _ _ _ _ _ _ hn _ => by
      unfold nee at hn
      rw [if_pos h2] at hn
      omega
    exact ⟨no _ _ 1 (by omega) (by omega), no _ _ 2 (by omega) (by omega), no _ _ 3 (by omega) (by omega), no _ _ 4 (by omega) (by omega), no _ _ 5 (by omega) (by omega), no _ _ 6 (by omega) (by omega)⟩
  | succ F ih =>
    intro f hf
    cases f with
    | zero => exact ih 0 (by omega)
    | succ f =>
      have H : ∀ f', f' ≤ f → _ := fun f' hf' => ih f' (by omega)
      exact ⟨c_M_either hB hla hky (fun f' h => (H f' h).2.1), c_M_both hB hla hky (fun f' h => (H f' h).2.2.1), c_M_test hB hla hky (fun f' h => (H f' h).2.2.2.1), c_M_sum hB hla hky (fun f' h => (H f' h).2.2.2.2.1), c_M_term hB hla hky (fun f' h => (H f' h).2.2.2.2.2), c_M_part0 hB hla hky (H f (Nat.le_refl _)).2.2.2.2.2 (H f (Nat.le_refl _)).1⟩

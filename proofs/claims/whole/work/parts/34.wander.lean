/-! the thief's way by the reference; who sees him; tired posts; both sides -/
theorem add0I (x : Int32) : x + nI 0 = x := by
  have e : nI 0 = 0 := rfl
  rw [e, Int32.add_zero]
theorem in5 (v : Int32) : ((0 : Int64) ≤ v.toInt64 ∧ v.toInt64 ≤ 5) ↔ (0 ≤ v ∧ v < nI 6) := by
  have e : (5 : Int64) = (nI 5).toInt64 := by decide
  rw [e, inR_iffL (by omega), inR_iff (by omega)]
theorem in7 (v : Int32) : ((0 : Int64) ≤ v.toInt64 ∧ v.toInt64 ≤ 7) ↔ (0 ≤ v ∧ v < nI 8) := by
  have e : (7 : Int64) = (nI 7).toInt64 := by decide
  rw [e, inR_iffL (by omega), inR_iff (by omega)]
set_option maxHeartbeats 4000000 in
set_option maxRecDepth 100000 in
theorem c_M_wanders {g : Gl} {d ks : Nat} {h : AH} {z s : Nat → Int32} (hM : Ms g h z s) (hd : 2 ≤ d) {th : Nat} (e7 : s 7 = nI th) (hth2 : th < 48) : Ex g mX7_wanders d 0 ks 0 [some (.ref (g.1 + 75)), none, none, none] [] h (qv (fun h' => h' = h.set 76 (ia g 3090 (mvS s)))) := by
  have hth : thf s = th := by unfold thf; rw [e7, nI_clamp (by omega)]
  have hm := gs_ne (q := 76) (c := ia g 3090 (upd s 9 (drw (s 9)))) (by decide) hM.1
  have hs := gs_eq (c := ia g 3090 (upd s 9 (drw (s 9)))) hM.2
  have hM1 : Ms g (h.set 76 (ia g 3090 (upd s 9 (drw (s 9))))) z (upd s 9 (drw (s 9))) := ⟨hm, hs⟩
  have hσ4 : dN (s 9) % 4 < 4 := Nat.mod_lt _ (by omega)
  rcases (show dN (s 9) % 4 = 0 ∨ dN (s 9) % 4 = 1 ∨ dN (s 9) % 4 = 2 ∨ dN (s 9) % 4 = 3 by omega) with hσ | hσ | hσ | hσ
  · cases hx : nxt 0 th with
    | none =>
      refine ex_aload_n (pc := 0) dX7_wanders_0 rfl ?_
      refine cx_VL0i (pc := 1) dX7_wanders_1 lk_X7_202 hM.1 rfl (Nat.le_of_ble_eq_true rfl) (Nat.le_of_ble_eq_true rfl) (by omega) (c_M_drawn hM) (fun h_1 x_1 q_1 => ?_)
      obtain ⟨e_1, rfl⟩ := q_1
      rw [e_1]
      refine ex_iconst (pc := 4) (v := (nI 4)) dX7_wanders_4 (by decide) ?_
      refine ex_irem (pc := 5) dX7_wanders_5 (by decide) ?_
      rw [drv_rem (s 9) (by omega) (by omega), hσ]
      refine sx_istore_n (pc := 6) dX7_wanders_6 rfl (by decide) ?_
      show Ex _ _ _ _ _ _ [_, _, _, _] _ _ _
      refine ex_aload_n (pc := 7) dX7_wanders_7 rfl ?_
      refine ex_get (pc := 8) dX7_wanders_8 fl_X7_7 hm rfl ?_
      refine ex_bipush (pc := 11) (v := (nI 7)) dX7_wanders_11 (by decide) ?_
      refine ex_ildn (k := 7) (pc := 13) dX7_wanders_13 hs (by first | rfl | (simp only [nI_add, nI_mul]; done) | (simp only [nI_add, nI_mul]; rfl)) (by omega) (by decide) ?_
      rw [show upd s 9 (drw (s 9)) 7 = nI th from (upd_ne (by decide)).trans e7]
      refine ex_bipush (pc := 14) (v := (nI 8)) dX7_wanders_14 (by decide) ?_
      refine ex_idiv (pc := 16) dX7_wanders_16 (by decide) ?_
      refine ex_iload_n (pc := 17) dX7_wanders_17 rfl ?_
      refine bx_if_ne_f (pc := 18) (tgt := 25) dX7_wanders_18 (by decide) (rfl) ?_
      refine ex_iconst (pc := 21) (v := (-1)) dX7_wanders_21 (by decide) ?_
      refine ex_goto (pc := 22) (tgt := 35) dX7_wanders_22 (by decide) ?_
      refine ex_iadd (pc := 35) dX7_wanders_35 ?_
      rw [← r32_0 th]
      refine sx_istore_n (pc := 36) dX7_wanders_36 rfl (by decide) ?_
      show Ex _ _ _ _ _ _ [_, _, _, _] _ _ _
      refine ex_aload_n (pc := 37) dX7_wanders_37 rfl ?_
      refine ex_get (pc := 38) dX7_wanders_38 fl_X7_7 hm rfl ?_
      refine ex_bipush (pc := 41) (v := (nI 7)) dX7_wanders_41 (by decide) ?_
      refine ex_ildn (k := 7) (pc := 43) dX7_wanders_43 hs (by first | rfl | (simp only [nI_add, nI_mul]; done) | (simp only [nI_add, nI_mul]; rfl)) (by omega) (by decide) ?_
      rw [show upd s 9 (drw (s 9)) 7 = nI th from (upd_ne (by decide)).trans e7]
      refine ex_bipush (pc := 44) (v := (nI 8)) dX7_wanders_44 (by decide) ?_
      refine ex_irem (pc := 46) dX7_wanders_46 (by decide) ?_
      refine ex_iload_n (pc := 47) dX7_wanders_47 rfl ?_
      refine ex_iconst (pc := 48) (v := (nI 1)) dX7_wanders_48 (by decide) ?_
      refine bx_icmp_ne_t (pc := 49) (tgt := 56) dX7_wanders_49 (by decide) (by decide) ?_
      refine ex_iload_n (pc := 56) dX7_wanders_56 rfl ?_
      refine ex_iconst (pc := 57) (v := (nI 3)) dX7_wanders_57 (by decide) ?_
      refine bx_icmp_ne_t (pc := 58) (tgt := 65) dX7_wanders_58 (by decide) (by decide) ?_
      refine ex_iconst (pc := 65) (v := (nI 0)) dX7_wanders_65 (by decide) ?_
      refine ex_iadd (pc := 66) dX7_wanders_66 ?_
      rw [add0I]
      rw [← c32_0 th]
      refine sx_istore_n (pc := 67) dX7_wanders_67 rfl (by decide) ?_
      show Ex _ _ _ _ _ _ [_, _, _, _] _ _ _
      refine ex_iload_n (pc := 68) dX7_wanders_68 rfl ?_
      refine ex_i2l (pc := 69) dX7_wanders_69 ?_
      refine ex_lconst (pc := 70) (v := 0) dX7_wanders_70 (by decide) ?_
      refine ex_ldc2_w (pc := 71) dX7_wanders_71 cn_X7_154 ?_
      refine cx_SL3i (pc := 74) dX7_wanders_74 lk_X7_69 rfl (Nat.le_of_ble_eq_true rfl) (Nat.le_of_ble_eq_true rfl) (by omega) (c_M_isIn _ _ _) (fun h_74 x_74 q_74 => ?_)
      obtain ⟨e_74, f_74⟩ := q_74
      rw [e_74, f_74]
      rw [bI_eq (in5 _)]
      refine ex_if_eq (pc := 77) (tgt := 118) dX7_wanders_77 (by decide) (fun c_77 => ?_) (fun c_77 => ?_)
      · skip
        refine ex_vret dX7_wanders_118 rfl ?_
        refine qv_mk ?_
        rw [mv_same (by rw [hσ, hth]; exact hx)]
      · skip
        refine ex_iload_n (pc := 80) dX7_wanders_80 rfl ?_
        refine ex_i2l (pc := 81) dX7_wanders_81 ?_
        refine ex_lconst (pc := 82) (v := 0) dX7_wanders_82 (by decide) ?_
        refine ex_ldc2_w (pc := 83) dX7_wanders_83 cn_X7_174 ?_
        refine cx_SL3i (pc := 86) dX7_wanders_86 lk_X7_69 rfl (Nat.le_of_ble_eq_true rfl) (Nat.le_of_ble_eq_true rfl) (by omega) (c_M_isIn _ _ _) (fun h_86 x_86 q_86 => ?_)
        obtain ⟨e_86, f_86⟩ := q_86
        rw [e_86, f_86]
        rw [bI_eq (in7 _)]
        refine ex_if_eq (pc := 89) (tgt := 118) dX7_wanders_89 (by decide) (fun c_89 => ?_) (fun c_89 => ?_)
        · skip
          refine ex_vret dX7_wanders_118 rfl ?_
          refine qv_mk ?_
          rw [mv_same (by rw [hσ, hth]; exact hx)]
        · skip
          exact absurd ⟨Decidable.not_not.mp (fun q => c_77 (bI_f q)), Decidable.not_not.mp (fun q => c_89 (bI_f q))⟩ (nxt_n (by omega) hth2 hx)
    | some c =>
      have hx1 := nxt_s (by omega) hth2 hx
      refine ex_aload_n (pc := 0) dX7_wanders_0 rfl ?_
      refine cx_VL0i (pc := 1) dX7_wanders_1 lk_X7_202 hM.1 rfl (Nat.le_of_ble_eq_true rfl) (Nat.le_of_ble_eq_true rfl) (by omega) (c_M_drawn hM) (fun h_1 x_1 q_1 => ?_)
      obtain ⟨e_1, rfl⟩ := q_1
      rw [e_1]
      refine ex_iconst (pc := 4) (v := (nI 4)) dX7_wanders_4 (by decide) ?_
      refine ex_irem (pc := 5) dX7_wanders_5 (by decide) ?_
      rw [drv_rem (s 9) (by omega) (by omega), hσ]
      refine sx_istore_n (pc := 6) dX7_wanders_6 rfl (by decide) ?_
      show Ex _ _ _ _ _ _ [_, _, _, _] _ _ _
      refine ex_aload_n (pc := 7) dX7_wanders_7 rfl ?_
      refine ex_get (pc := 8) dX7_wanders_8 fl_X7_7 hm rfl ?_
      refine ex_bipush (pc := 11) (v := (nI 7)) dX7_wanders_11 (by decide) ?_
      refine ex_ildn (k := 7) (pc := 13) dX7_wanders_13 hs (by first | rfl | (simp only [nI_add, nI_mul]; done) | (simp only [nI_add, nI_mul]; rfl)) (by omega) (by decide) ?_
      rw [show upd s 9 (drw (s 9)) 7 = nI th from (upd_ne (by decide)).trans e7]
      refine ex_bipush (pc := 14) (v := (nI 8)) dX7_wanders_14 (by decide) ?_
      refine ex_idiv (pc := 16) dX7_wanders_16 (by decide) ?_
      refine ex_iload_n (pc := 17) dX7_wanders_17 rfl ?_
      refine bx_if_ne_f (pc := 18) (tgt := 25) dX7_wanders_18 (by decide) (rfl) ?_
      refine ex_iconst (pc := 21) (v := (-1)) dX7_wanders_21 (by decide) ?_
      refine ex_goto (pc := 22) (tgt := 35) dX7_wanders_22 (by decide) ?_
      refine ex_iadd (pc := 35) dX7_wanders_35 ?_
      rw [← r32_0 th]
      refine sx_istore_n (pc := 36) dX7_wanders_36 rfl (by decide) ?_
      show Ex _ _ _ _ _ _ [_, _, _, _] _ _ _
      refine ex_aload_n (pc := 37) dX7_wanders_37 rfl ?_
      refine ex_get (pc := 38) dX7_wanders_38 fl_X7_7 hm rfl ?_
      refine ex_bipush (pc := 41) (v := (nI 7)) dX7_wanders_41 (by decide) ?_
      refine ex_ildn (k := 7) (pc := 43) dX7_wanders_43 hs (by first | rfl | (simp only [nI_add, nI_mul]; done) | (simp only [nI_add, nI_mul]; rfl)) (by omega) (by decide) ?_
      rw [show upd s 9 (drw (s 9)) 7 = nI th from (upd_ne (by decide)).trans e7]
      refine ex_bipush (pc := 44) (v := (nI 8)) dX7_wanders_44 (by decide) ?_
      refine ex_irem (pc := 46) dX7_wanders_46 (by decide) ?_
      refine ex_iload_n (pc := 47) dX7_wanders_47 rfl ?_
      refine ex_iconst (pc := 48) (v := (nI 1)) dX7_wanders_48 (by decide) ?_
      refine bx_icmp_ne_t (pc := 49) (tgt := 56) dX7_wanders_49 (by decide) (by decide) ?_
      refine ex_iload_n (pc := 56) dX7_wanders_56 rfl ?_
      refine ex_iconst (pc := 57) (v := (nI 3)) dX7_wanders_57 (by decide) ?_
      refine bx_icmp_ne_t (pc := 58) (tgt := 65) dX7_wanders_58 (by decide) (by decide) ?_
      refine ex_iconst (pc := 65) (v := (nI 0)) dX7_wanders_65 (by decide) ?_
      refine ex_iadd (pc := 66) dX7_wanders_66 ?_
      rw [add0I]
      rw [← c32_0 th]
      refine sx_istore_n (pc := 67) dX7_wanders_67 rfl (by decide) ?_
      show Ex _ _ _ _ _ _ [_, _, _, _] _ _ _
      refine ex_iload_n (pc := 68) dX7_wanders_68 rfl ?_
      refine ex_i2l (pc := 69) dX7_wanders_69 ?_
      refine ex_lconst (pc := 70) (v := 0) dX7_wanders_70 (by decide) ?_
      refine ex_ldc2_w (pc := 71) dX7_wanders_71 cn_X7_154 ?_
      refine cx_SL3i (pc := 74) dX7_wanders_74 lk_X7_69 rfl (Nat.le_of_ble_eq_true rfl) (Nat.le_of_ble_eq_true rfl) (by omega) (c_M_isIn _ _ _) (fun h_74 x_74 q_74 => ?_)
      obtain ⟨e_74, f_74⟩ := q_74
      rw [e_74, f_74]
      rw [bI_eq (in5 _)]
      refine bx_if_eq_f (pc := 77) (tgt := 118) dX7_wanders_77 (by decide) (by rw [bI_t hx1.1.1]; decide) ?_
      refine ex_iload_n (pc := 80) dX7_wanders_80 rfl ?_
      refine ex_i2l (pc := 81) dX7_wanders_81 ?_
      refine ex_lconst (pc := 82) (v := 0) dX7_wanders_82 (by decide) ?_
      refine ex_ldc2_w (pc := 83) dX7_wanders_83 cn_X7_174 ?_
      refine cx_SL3i (pc := 86) dX7_wanders_86 lk_X7_69 rfl (Nat.le_of_ble_eq_true rfl) (Nat.le_of_ble_eq_true rfl) (by omega) (c_M_isIn _ _ _) (fun h_86 x_86 q_86 => ?_)
      obtain ⟨e_86, f_86⟩ := q_86
      rw [e_86, f_86]
      rw [bI_eq (in7 _)]
      refine bx_if_eq_f (pc := 89) (tgt := 118) dX7_wanders_89 (by decide) (by rw [bI_t hx1.1.2]; decide) ?_
      refine ex_aload_n (pc := 92) dX7_wanders_92 rfl ?_
      refine ex_bipush (pc := 93) (v := (nI 8)) dX7_wanders_93 (by decide) ?_
      refine ex_iload_n (pc := 95) dX7_wanders_95 rfl ?_
      refine ex_imul (pc := 96) dX7_wanders_96 ?_
      refine ex_iload_n (pc := 97) dX7_wanders_97 rfl ?_
      refine ex_iadd (pc := 98) dX7_wanders_98 ?_
      rw [hx1.2.2.1]
      refine cx_VL1i (pc := 99) dX7_wanders_99 lk_X7_80 hm rfl (Nat.le_of_ble_eq_true rfl) (Nat.le_of_ble_eq_true rfl) (by omega) (c_M_hasWall hM1 hx1.2.2.2) (fun h_99 x_99 q_99 => ?_)
      obtain ⟨e_99, f_99⟩ := q_99
      rw [e_99, f_99]
      rw [show upd s 9 (drw (s 9)) (42 + c) = s (42 + c) from upd_ne (by omega)]
      refine ex_if_ne (pc := 102) (tgt := 118) dX7_wanders_102 (by decide) (fun c_102 => ?_) (fun c_102 => ?_)
      · skip
        refine ex_vret dX7_wanders_118 rfl ?_
        refine qv_mk ?_
        first
        | (rw [mv_wall (s := s) (by rw [hσ, hth]; exact hx) (show wll s c = true from decide_eq_true (Decidable.not_not.mp (fun q => c_102 (bI_f q))))]; done)
        | (rw [mv_go (s := s) (by rw [hσ, hth]; exact hx) (fun q => (bI_0.mp c_102) (of_decide_eq_true q)), List.set_set]; done)
      · skip
        refine ex_aload_n (pc := 105) dX7_wanders_105 rfl ?_
        refine ex_get (pc := 106) dX7_wanders_106 fl_X7_7 hm rfl ?_
        refine ex_bipush (pc := 109) (v := (nI 7)) dX7_wanders_109 (by decide) ?_
        refine ex_bipush (pc := 111) (v := (nI 8)) dX7_wanders_111 (by decide) ?_
        refine ex_iload_n (pc := 113) dX7_wanders_113 rfl ?_
        refine ex_imul (pc := 114) dX7_wanders_114 ?_
        refine ex_iload_n (pc := 115) dX7_wanders_115 rfl ?_
        refine ex_iadd (pc := 116) dX7_wanders_116 ?_
        rw [hx1.2.2.1]
        refine ex_istn (k := 7) (pc := 117) dX7_wanders_117 hs (by first | rfl | (simp only [nI_add, nI_mul]; done) | (simp only [nI_add, nI_mul]; rfl)) (by omega) (by decide) ?_
        refine ex_vret dX7_wanders_118 rfl ?_
        refine qv_mk ?_
        first
        | (rw [mv_wall (s := s) (by rw [hσ, hth]; exact hx) (show wll s c = true from decide_eq_true (Decidable.not_not.mp (fun q => c_102 (bI_f q))))]; done)
        | (rw [mv_go (s := s) (by rw [hσ, hth]; exact hx) (fun q => (bI_0.mp c_102) (of_decide_eq_true q)), List.set_set]; done)
  · cases hx : nxt 1 th with
    | none =>
      refine ex_aload_n (pc := 0) dX7_wanders_0 rfl ?_
      refine cx_VL0i (pc := 1) dX7_wanders_1 lk_X7_202 hM.1 rfl (Nat.le_of_ble_eq_true rfl) (Nat.le_of_ble_eq_true rfl) (by omega) (c_M_drawn hM) (fun h_1 x_1 q_1 => ?_)
      obtain ⟨e_1, rfl⟩ := q_1
      rw [e_1]
      refine ex_iconst (pc := 4) (v := (nI 4)) dX7_wanders_4 (by decide) ?_
      refine ex_irem (pc := 5) dX7_wanders_5 (by decide) ?_
      rw [drv_rem (s 9) (by omega) (by omega), hσ]
      refine sx_istore_n (pc := 6) dX7_wanders_6 rfl (by decide) ?_
      show Ex _ _ _ _ _ _ [_, _, _, _] _ _ _
      refine ex_aload_n (pc := 7) dX7_wanders_7 rfl ?_
      refine ex_get (pc := 8) dX7_wanders_8 fl_X7_7 hm rfl ?_
      refine ex_bipush (pc := 11) (v := (nI 7)) dX7_wanders_11 (by decide) ?_
      refine ex_ildn (k := 7) (pc := 13) dX7_wanders_13 hs (by first | rfl | (simp only [nI_add, nI_mul]; done) | (simp only [nI_add, nI_mul]; rfl)) (by omega) (by decide) ?_
      rw [show upd s 9 (drw (s 9)) 7 = nI th from (upd_ne (by decide)).trans e7]
      refine ex_bipush (pc := 14) (v := (nI 8)) dX7_wanders_14 (by decide) ?_
      refine ex_idiv (pc := 16) dX7_wanders_16 (by decide) ?_
      refine ex_iload_n (pc := 17) dX7_wanders_17 rfl ?_
      refine bx_if_ne_t (pc := 18) (tgt := 25) dX7_wanders_18 (by decide) (by decide) ?_
      refine ex_iload_n (pc := 25) dX7_wanders_25 rfl ?_
      refine ex_iconst (pc := 26) (v := (nI 2)) dX7_wanders_26 (by decide) ?_
      refine bx_icmp_ne_t (pc := 27) (tgt := 34) dX7_wanders_27 (by decide) (by decide) ?_
      refine ex_iconst (pc := 34) (v := (nI 0)) dX7_wanders_34 (by decide) ?_
      refine ex_iadd (pc := 35) dX7_wanders_35 ?_
      rw [add0I]
      rw [← r32_1 th]
      refine sx_istore_n (pc := 36) dX7_wanders_36 rfl (by decide) ?_
      show Ex _ _ _ _ _ _ [_, _, _, _] _ _ _
      refine ex_aload_n (pc := 37) dX7_wanders_37 rfl ?_
      refine ex_get (pc := 38) dX7_wanders_38 fl_X7_7 hm rfl ?_
      refine ex_bipush (pc := 41) (v := (nI 7)) dX7_wanders_41 (by decide) ?_
      refine ex_ildn (k := 7) (pc := 43) dX7_wanders_43 hs (by first | rfl | (simp only [nI_add, nI_mul]; done) | (simp only [nI_add, nI_mul]; rfl)) (by omega) (by decide) ?_
      rw [show upd s 9 (drw (s 9)) 7 = nI th from (upd_ne (by decide)).trans e7]
      refine ex_bipush (pc := 44) (v := (nI 8)) dX7_wanders_44 (by decide) ?_
      refine ex_irem (pc := 46) dX7_wanders_46 (by decide) ?_
      refine ex_iload_n (pc := 47) dX7_wanders_47 rfl ?_
      refine ex_iconst (pc := 48) (v := (nI 1)) dX7_wanders_48 (by decide) ?_
      refine bx_icmp_ne_f (pc := 49) (tgt := 56) dX7_wanders_49 (by decide) (rfl) ?_
      refine ex_iconst (pc := 52) (v := (nI 1)) dX7_wanders_52 (by decide) ?_
      refine ex_goto (pc := 53) (tgt := 66) dX7_wanders_53 (by decide) ?_
      refine ex_iadd (pc := 66) dX7_wanders_66 ?_
      rw [← c32_1 th]
      refine sx_istore_n (pc := 67) dX7_wanders_67 rfl (by decide) ?_
      show Ex _ _ _ _ _ _ [_, _, _, _] _ _ _
      refine ex_iload_n (pc := 68) dX7_wanders_68 rfl ?_
      refine ex_i2l (pc := 69) dX7_wanders_69 ?_
      refine ex_lconst (pc := 70) (v := 0) dX7_wanders_70 (by decide) ?_
      refine ex_ldc2_w (pc := 71) dX7_wanders_71 cn_X7_154 ?_
      refine cx_SL3i (pc := 74) dX7_wanders_74 lk_X7_69 rfl (Nat.le_of_ble_eq_true rfl) (Nat.le_of_ble_eq_true rfl) (by omega) (c_M_isIn _ _ _) (fun h_74 x_74 q_74 => ?_)
      obtain ⟨e_74, f_74⟩ := q_74
      rw [e_74, f_74]
      rw [bI_eq (in5 _)]
      refine ex_if_eq (pc := 77) (tgt := 118) dX7_wanders_77 (by decide) (fun c_77 => ?_) (fun c_77 => ?_)
      · skip
        refine ex_vret dX7_wanders_118 rfl ?_
        refine qv_mk ?_
        rw [mv_same (by rw [hσ, hth]; exact hx)]
      · skip
        refine ex_iload_n (pc := 80) dX7_wanders_80 rfl ?_
        refine ex_i2l (pc := 81) dX7_wanders_81 ?_
        refine ex_lconst (pc := 82) (v := 0) dX7_wanders_82 (by decide) ?_
        refine ex_ldc2_w (pc := 83) dX7_wanders_83 cn_X7_174 ?_
        refine cx_SL3i (pc := 86) dX7_wanders_86 lk_X7_69 rfl (Nat.le_of_ble_eq_true rfl) (Nat.le_of_ble_eq_true rfl) (by omega) (c_M_isIn _ _ _) (fun h_86 x_86 q_86 => ?_)
        obtain ⟨e_86, f_86⟩ := q_86
        rw [e_86, f_86]
        rw [bI_eq (in7 _)]
        refine ex_if_eq (pc := 89) (tgt := 118) dX7_wanders_89 (by decide) (fun c_89 => ?_) (fun c_89 => ?_)
        · skip
          refine ex_vret dX7_wanders_118 rfl ?_
          refine qv_mk ?_
          rw [mv_same (by rw [hσ, hth]; exact hx)]
        · skip
          exact absurd ⟨Decidable.not_not.mp (fun q => c_77 (bI_f q)), Decidable.not_not.mp (fun q => c_89 (bI_f q))⟩ (nxt_n (by omega) hth2 hx)
    | some c =>
      have hx1 := nxt_s (by omega) hth2 hx
      refine ex_aload_n (pc := 0) dX7_wanders_0 rfl ?_
      refine cx_VL0i (pc := 1) dX7_wanders_1 lk_X7_202 hM.1 rfl (Nat.le_of_ble_eq_true rfl) (Nat.le_of_ble_eq_true rfl) (by omega) (c_M_drawn hM) (fun h_1 x_1 q_1 => ?_)
      obtain ⟨e_1, rfl⟩ := q_1
      rw [e_1]
      refine ex_iconst (pc := 4) (v := (nI 4)) dX7_wanders_4 (by decide) ?_
      refine ex_irem (pc := 5) dX7_wanders_5 (by decide) ?_
      rw [drv_rem (s 9) (by omega) (by omega), hσ]
      refine sx_istore_n (pc := 6) dX7_wanders_6 rfl (by decide) ?_
      show Ex _ _ _ _ _ _ [_, _, _, _] _ _ _
      refine ex_aload_n (pc := 7) dX7_wanders_7 rfl ?_
      refine ex_get (pc := 8) dX7_wanders_8 fl_X7_7 hm rfl ?_
      refine ex_bipush (pc := 11) (v := (nI 7)) dX7_wanders_11 (by decide) ?_
      refine ex_ildn (k := 7) (pc := 13) dX7_wanders_13 hs (by first | rfl | (simp only [nI_add, nI_mul]; done) | (simp only [nI_add, nI_mul]; rfl)) (by omega) (by decide) ?_
      rw [show upd s 9 (drw (s 9)) 7 = nI th from (upd_ne (by decide)).trans e7]
      refine ex_bipush (pc := 14) (v := (nI 8)) dX7_wanders_14 (by decide) ?_
      refine ex_idiv (pc := 16) dX7_wanders_16 (by decide) ?_
      refine ex_iload_n (pc := 17) dX7_wanders_17 rfl ?_
      refine bx_if_ne_t (pc := 18) (tgt := 25) dX7_wanders_18 (by decide) (by decide) ?_
      refine ex_iload_n (pc := 25) dX7_wanders_25 rfl ?_
      refine ex_iconst (pc := 26) (v := (nI 2)) dX7_wanders_26 (by decide) ?_
      refine bx_icmp_ne_t (pc := 27) (tgt := 34) dX7_wanders_27 (by decide) (by decide) ?_
      refine ex_iconst (pc := 34) (v := (nI 0)) dX7_wanders_34 (by decide) ?_
      refine ex_iadd (pc := 35) dX7_wanders_35 ?_
      rw [add0I]
      rw [← r32_1 th]
      refine sx_istore_n (pc := 36) dX7_wanders_36 rfl (by decide) ?_
      show Ex _ _ _ _ _ _ [_, _, _, _] _ _ _
      refine ex_aload_n (pc := 37) dX7_wanders_37 rfl ?_
      refine ex_get (pc := 38) dX7_wanders_38 fl_X7_7 hm rfl ?_
      refine ex_bipush (pc := 41) (v := (nI 7)) dX7_wanders_41 (by decide) ?_
      refine ex_ildn (k := 7) (pc := 43) dX7_wanders_43 hs (by first | rfl | (simp only [nI_add, nI_mul]; done) | (simp only [nI_add, nI_mul]; rfl)) (by omega) (by decide) ?_
      rw [show upd s 9 (drw (s 9)) 7 = nI th from (upd_ne (by decide)).trans e7]
      refine ex_bipush (pc := 44) (v := (nI 8)) dX7_wanders_44 (by decide) ?_
      refine ex_irem (pc := 46) dX7_wanders_46 (by decide) ?_
      refine ex_iload_n (pc := 47) dX7_wanders_47 rfl ?_
      refine ex_iconst (pc := 48) (v := (nI 1)) dX7_wanders_48 (by decide) ?_
      refine bx_icmp_ne_f (pc := 49) (tgt := 56) dX7_wanders_49 (by decide) (rfl) ?_
      refine ex_iconst (pc := 52) (v := (nI 1)) dX7_wanders_52 (by decide) ?_
      refine ex_goto (pc := 53) (tgt := 66) dX7_wanders_53 (by decide) ?_
      refine ex_iadd (pc := 66) dX7_wanders_66 ?_
      rw [← c32_1 th]
      refine sx_istore_n (pc := 67) dX7_wanders_67 rfl (by decide) ?_
      show Ex _ _ _ _ _ _ [_, _, _, _] _ _ _
      refine ex_iload_n (pc := 68) dX7_wanders_68 rfl ?_
      refine ex_i2l (pc := 69) dX7_wanders_69 ?_
      refine ex_lconst (pc := 70) (v := 0) dX7_wanders_70 (by decide) ?_
      refine ex_ldc2_w (pc := 71) dX7_wanders_71 cn_X7_154 ?_
      refine cx_SL3i (pc := 74) dX7_wanders_74 lk_X7_69 rfl (Nat.le_of_ble_eq_true rfl) (Nat.le_of_ble_eq_true rfl) (by omega) (c_M_isIn _ _ _) (fun h_74 x_74 q_74 => ?_)
      obtain ⟨e_74, f_74⟩ := q_74
      rw [e_74, f_74]
      rw [bI_eq (in5 _)]
      refine bx_if_eq_f (pc := 77) (tgt := 118) dX7_wanders_77 (by decide) (by rw [bI_t hx1.1.1]; decide) ?_
      refine ex_iload_n (pc := 80) dX7_wanders_80 rfl ?_
      refine ex_i2l (pc := 81) dX7_wanders_81 ?_
      refine ex_lconst (pc := 82) (v := 0) dX7_wanders_82 (by decide) ?_
      refine ex_ldc2_w (pc := 83) dX7_wanders_83 cn_X7_174 ?_
      refine cx_SL3i (pc := 86) dX7_wanders_86 lk_X7_69 rfl (Nat.le_of_ble_eq_true rfl) (Nat.le_of_ble_eq_true rfl) (by omega) (c_M_isIn _ _ _) (fun h_86 x_86 q_86 => ?_)
      obtain ⟨e_86, f_86⟩ := q_86
      rw [e_86, f_86]
      rw [bI_eq (in7 _)]
      refine bx_if_eq_f (pc := 89) (tgt := 118) dX7_wanders_89 (by decide) (by rw [bI_t hx1.1.2]; decide) ?_
      refine ex_aload_n (pc := 92) dX7_wanders_92 rfl ?_
      refine ex_bipush (pc := 93) (v := (nI 8)) dX7_wanders_93 (by decide) ?_
      refine ex_iload_n (pc := 95) dX7_wanders_95 rfl ?_
      refine ex_imul (pc := 96) dX7_wanders_96 ?_
      refine ex_iload_n (pc := 97) dX7_wanders_97 rfl ?_
      refine ex_iadd (pc := 98) dX7_wanders_98 ?_
      rw [hx1.2.2.1]
      refine cx_VL1i (pc := 99) dX7_wanders_99 lk_X7_80 hm rfl (Nat.le_of_ble_eq_true rfl) (Nat.le_of_ble_eq_true rfl) (by omega) (c_M_hasWall hM1 hx1.2.2.2) (fun h_99 x_99 q_99 => ?_)
      obtain ⟨e_99, f_99⟩ := q_99
      rw [e_99, f_99]
      rw [show upd s 9 (drw (s 9)) (42 + c) = s (42 + c) from upd_ne (by omega)]
      refine ex_if_ne (pc := 102) (tgt := 118) dX7_wanders_102 (by decide) (fun c_102 => ?_) (fun c_102 => ?_)
      · skip
        refine ex_vret dX7_wanders_118 rfl ?_
        refine qv_mk ?_
        first
        | (rw [mv_wall (s := s) (by rw [hσ, hth]; exact hx) (show wll s c = true from decide_eq_true (Decidable.not_not.mp (fun q => c_102 (bI_f q))))]; done)
        | (rw [mv_go (s := s) (by rw [hσ, hth]; exact hx) (fun q => (bI_0.mp c_102) (of_decide_eq_true q)), List.set_set]; done)
      · skip
        refine ex_aload_n (pc := 105) dX7_wanders_105 rfl ?_
        refine ex_get (pc := 106) dX7_wanders_106 fl_X7_7 hm rfl ?_
        refine ex_bipush (pc := 109) (v := (nI 7)) dX7_wanders_109 (by decide) ?_
        refine ex_bipush (pc := 111) (v := (nI 8)) dX7_wanders_111 (by decide) ?_
        refine ex_iload_n (pc := 113) dX7_wanders_113 rfl ?_
        refine ex_imul (pc := 114) dX7_wanders_114 ?_
        refine ex_iload_n (pc := 115) dX7_wanders_115 rfl ?_
        refine ex_iadd (pc := 116) dX7_wanders_116 ?_
        rw [hx1.2.2.1]
        refine ex_istn (k := 7) (pc := 117) dX7_wanders_117 hs (by first | rfl | (simp only [nI_add, nI_mul]; done) | (simp only [nI_add, nI_mul]; rfl)) (by omega) (by decide) ?_
        refine ex_vret dX7_wanders_118 rfl ?_
        refine qv_mk ?_
        first
        | (rw [mv_wall (s := s) (by rw [hσ, hth]; exact hx) (show wll s c = true from decide_eq_true (Decidable.not_not.mp (fun q => c_102 (bI_f q))))]; done)
        | (rw [mv_go (s := s) (by rw [hσ, hth]; exact hx) (fun q => (bI_0.mp c_102) (of_decide_eq_true q)), List.set_set]; done)
  · cases hx : nxt 2 th with
    | none =>
      refine ex_aload_n (pc := 0) dX7_wanders_0 rfl ?_
      refine cx_VL0i (pc := 1) dX7_wanders_1 lk_X7_202 hM.1 rfl (Nat.le_of_ble_eq_true rfl) (Nat.le_of_ble_eq_true rfl) (by omega) (c_M_drawn hM) (fun h_1 x_1 q_1 => ?_)
      obtain ⟨e_1, rfl⟩ := q_1
      rw [e_1]
      refine ex_iconst (pc := 4) (v := (nI 4)) dX7_wanders_4 (by decide) ?_
      refine ex_irem (pc := 5) dX7_wanders_5 (by decide) ?_
      rw [drv_rem (s 9) (by omega) (by omega), hσ]
      refine sx_istore_n (pc := 6) dX7_wanders_6 rfl (by decide) ?_
      show Ex _ _ _ _ _ _ [_, _, _, _] _ _ _
      refine ex_aload_n (pc := 7) dX7_wanders_7 rfl ?_
      refine ex_get (pc := 8) dX7_wanders_8 fl_X7_7 hm rfl ?_
      refine ex_bipush (pc := 11) (v := (nI 7)) dX7_wanders_11 (by decide) ?_
      refine ex_ildn (k := 7) (pc := 13) dX7_wanders_13 hs (by first | rfl | (simp only [nI_add, nI_mul]; done) | (simp only [nI_add, nI_mul]; rfl)) (by omega) (by decide) ?_
      rw [show upd s 9 (drw (s 9)) 7 = nI th from (upd_ne (by decide)).trans e7]
      refine ex_bipush (pc := 14) (v := (nI 8)) dX7_wanders_14 (by decide) ?_
      refine ex_idiv (pc := 16) dX7_wanders_16 (by decide) ?_
      refine ex_iload_n (pc := 17) dX7_wanders_17 rfl ?_
      refine bx_if_ne_t (pc := 18) (tgt := 25) dX7_wanders_18 (by decide) (by decide) ?_
      refine ex_iload_n (pc := 25) dX7_wanders_25 rfl ?_
      refine ex_iconst (pc := 26) (v := (nI 2)) dX7_wanders_26 (by decide) ?_
      refine bx_icmp_ne_f (pc := 27) (tgt := 34) dX7_wanders_27 (by decide) (rfl) ?_
      refine ex_iconst (pc := 30) (v := (nI 1)) dX7_wanders_30 (by decide) ?_
      refine ex_goto (pc := 31) (tgt := 35) dX7_wanders_31 (by decide) ?_
      refine ex_iadd (pc := 35) dX7_wanders_35 ?_
      rw [← r32_2 th]
      refine sx_istore_n (pc := 36) dX7_wanders_36 rfl (by decide) ?_
      show Ex _ _ _ _ _ _ [_, _, _, _] _ _ _
      refine ex_aload_n (pc := 37) dX7_wanders_37 rfl ?_
      refine ex_get (pc := 38) dX7_wanders_38 fl_X7_7 hm rfl ?_
      refine ex_bipush (pc := 41) (v := (nI 7)) dX7_wanders_41 (by decide) ?_
      refine ex_ildn (k := 7) (pc := 43) dX7_wanders_43 hs (by first | rfl | (simp only [nI_add, nI_mul]; done) | (simp only [nI_add, nI_mul]; rfl)) (by omega) (by decide) ?_
      rw [show upd s 9 (drw (s 9)) 7 = nI th from (upd_ne (by decide)).trans e7]
      refine ex_bipush (pc := 44) (v := (nI 8)) dX7_wanders_44 (by decide) ?_
      refine ex_irem (pc := 46) dX7_wanders_46 (by decide) ?_
      refine ex_iload_n (pc := 47) dX7_wanders_47 rfl ?_
      refine ex_iconst (pc := 48) (v := (nI 1)) dX7_wanders_48 (by decide) ?_
      refine bx_icmp_ne_t (pc := 49) (tgt := 56) dX7_wanders_49 (by decide) (by decide) ?_
      refine ex_iload_n (pc := 56) dX7_wanders_56 rfl ?_
      refine ex_iconst (pc := 57) (v := (nI 3)) dX7_wanders_57 (by decide) ?_
      refine bx_icmp_ne_t (pc := 58) (tgt := 65) dX7_wanders_58 (by decide) (by decide) ?_
      refine ex_iconst (pc := 65) (v := (nI 0)) dX7_wanders_65 (by decide) ?_
      refine ex_iadd (pc := 66) dX7_wanders_66 ?_
      rw [add0I]
      rw [← c32_2 th]
      refine sx_istore_n (pc := 67) dX7_wanders_67 rfl (by decide) ?_
      show Ex _ _ _ _ _ _ [_, _, _, _] _ _ _
      refine ex_iload_n (pc := 68) dX7_wanders_68 rfl ?_
      refine ex_i2l (pc := 69) dX7_wanders_69 ?_
      refine ex_lconst (pc := 70) (v := 0) dX7_wanders_70 (by decide) ?_
      refine ex_ldc2_w (pc := 71) dX7_wanders_71 cn_X7_154 ?_
      refine cx_SL3i (pc := 74) dX7_wanders_74 lk_X7_69 rfl (Nat.le_of_ble_eq_true rfl) (Nat.le_of_ble_eq_true rfl) (by omega) (c_M_isIn _ _ _) (fun h_74 x_74 q_74 => ?_)
      obtain ⟨e_74, f_74⟩ := q_74
      rw [e_74, f_74]
      rw [bI_eq (in5 _)]
      refine ex_if_eq (pc := 77) (tgt := 118) dX7_wanders_77 (by decide) (fun c_77 => ?_) (fun c_77 => ?_)
      · skip
        refine ex_vret dX7_wanders_118 rfl ?_
        refine qv_mk ?_
        rw [mv_same (by rw [hσ, hth]; exact hx)]
      · skip
        refine ex_iload_n (pc := 80) dX7_wanders_80 rfl ?_
        refine ex_i2l (pc := 81) dX7_wanders_81 ?_
        refine ex_lconst (pc := 82) (v := 0) dX7_wanders_82 (by decide) ?_
        refine ex_ldc2_w (pc := 83) dX7_wanders_83 cn_X7_174 ?_
        refine cx_SL3i (pc := 86) dX7_wanders_86 lk_X7_69 rfl (Nat.le_of_ble_eq_true rfl) (Nat.le_of_ble_eq_true rfl) (by omega) (c_M_isIn _ _ _) (fun h_86 x_86 q_86 => ?_)
        obtain ⟨e_86, f_86⟩ := q_86
        rw [e_86, f_86]
        rw [bI_eq (in7 _)]
        refine ex_if_eq (pc := 89) (tgt := 118) dX7_wanders_89 (by decide) (fun c_89 => ?_) (fun c_89 => ?_)
        · skip
          refine ex_vret dX7_wanders_118 rfl ?_
          refine qv_mk ?_
          rw [mv_same (by rw [hσ, hth]; exact hx)]
        · skip
          exact absurd ⟨Decidable.not_not.mp (fun q => c_77 (bI_f q)), Decidable.not_not.mp (fun q => c_89 (bI_f q))⟩ (nxt_n (by omega) hth2 hx)
    | some c =>
      have hx1 := nxt_s (by omega) hth2 hx
      refine ex_aload_n (pc := 0) dX7_wanders_0 rfl ?_
      refine cx_VL0i (pc := 1) dX7_wanders_1 lk_X7_202 hM.1 rfl (Nat.le_of_ble_eq_true rfl) (Nat.le_of_ble_eq_true rfl) (by omega) (c_M_drawn hM) (fun h_1 x_1 q_1 => ?_)
      obtain ⟨e_1, rfl⟩ := q_1
      rw [e_1]
      refine ex_iconst (pc := 4) (v := (nI 4)) dX7_wanders_4 (by decide) ?_
      refine ex_irem (pc := 5) dX7_wanders_5 (by decide) ?_
      rw [drv_rem (s 9) (by omega) (by omega), hσ]
      refine sx_istore_n (pc := 6) dX7_wanders_6 rfl (by decide) ?_
      show Ex _ _ _ _ _ _ [_, _, _, _] _ _ _
      refine ex_aload_n (pc := 7) dX7_wanders_7 rfl ?_
      refine ex_get (pc := 8) dX7_wanders_8 fl_X7_7 hm rfl ?_
      refine ex_bipush (pc := 11) (v := (nI 7)) dX7_wanders_11 (by decide) ?_
      refine ex_ildn (k := 7) (pc := 13) dX7_wanders_13 hs (by first | rfl | (simp only [nI_add, nI_mul]; done) | (simp only [nI_add, nI_mul]; rfl)) (by omega) (by decide) ?_
      rw [show upd s 9 (drw (s 9)) 7 = nI th from (upd_ne (by decide)).trans e7]
      refine ex_bipush (pc := 14) (v := (nI 8)) dX7_wanders_14 (by decide) ?_
      refine ex_idiv (pc := 16) dX7_wanders_16 (by decide) ?_
      refine ex_iload_n (pc := 17) dX7_wanders_17 rfl ?_
      refine bx_if_ne_t (pc := 18) (tgt := 25) dX7_wanders_18 (by decide) (by decide) ?_
      refine ex_iload_n (pc := 25) dX7_wanders_25 rfl ?_
      refine ex_iconst (pc := 26) (v := (nI 2)) dX7_wanders_26 (by decide) ?_
      refine bx_icmp_ne_f (pc := 27) (tgt := 34) dX7_wanders_27 (by decide) (rfl) ?_
      refine ex_iconst (pc := 30) (v := (nI 1)) dX7_wanders_30 (by decide) ?_
      refine ex_goto (pc := 31) (tgt := 35) dX7_wanders_31 (by decide) ?_
      refine ex_iadd (pc := 35) dX7_wanders_35 ?_
      rw [← r32_2 th]
      refine sx_istore_n (pc := 36) dX7_wanders_36 rfl (by decide) ?_
      show Ex _ _ _ _ _ _ [_, _, _, _] _ _ _
      refine ex_aload_n (pc := 37) dX7_wanders_37 rfl ?_
      refine ex_get (pc := 38) dX7_wanders_38 fl_X7_7 hm rfl ?_
      refine ex_bipush (pc := 41) (v := (nI 7)) dX7_wanders_41 (by decide) ?_
      refine ex_ildn (k := 7) (pc := 43) dX7_wanders_43 hs (by first | rfl | (simp only [nI_add, nI_mul]; done) | (simp only [nI_add, nI_mul]; rfl)) (by omega) (by decide) ?_
      rw [show upd s 9 (drw (s 9)) 7 = nI th from (upd_ne (by decide)).trans e7]
      refine ex_bipush (pc := 44) (v := (nI 8)) dX7_wanders_44 (by decide) ?_
      refine ex_irem (pc := 46) dX7_wanders_46 (by decide) ?_
      refine ex_iload_n (pc := 47) dX7_wanders_47 rfl ?_
      refine ex_iconst (pc := 48) (v := (nI 1)) dX7_wanders_48 (by decide) ?_
      refine bx_icmp_ne_t (pc := 49) (tgt := 56) dX7_wanders_49 (by decide) (by decide) ?_
      refine ex_iload_n (pc := 56) dX7_wanders_56 rfl ?_
      refine ex_iconst (pc := 57) (v := (nI 3)) dX7_wanders_57 (by decide) ?_
      refine bx_icmp_ne_t (pc := 58) (tgt := 65) dX7_wanders_58 (by decide) (by decide) ?_
      refine ex_iconst (pc := 65) (v := (nI 0)) dX7_wanders_65 (by decide) ?_
      refine ex_iadd (pc := 66) dX7_wanders_66 ?_
      rw [add0I]
      rw [← c32_2 th]
      refine sx_istore_n (pc := 67) dX7_wanders_67 rfl (by decide) ?_
      show Ex _ _ _ _ _ _ [_, _, _, _] _ _ _
      refine ex_iload_n (pc := 68) dX7_wanders_68 rfl ?_
      refine ex_i2l (pc := 69) dX7_wanders_69 ?_
      refine ex_lconst (pc := 70) (v := 0) dX7_wanders_70 (by decide) ?_
      refine ex_ldc2_w (pc := 71) dX7_wanders_71 cn_X7_154 ?_
      refine cx_SL3i (pc := 74) dX7_wanders_74 lk_X7_69 rfl (Nat.le_of_ble_eq_true rfl) (Nat.le_of_ble_eq_true rfl) (by omega) (c_M_isIn _ _ _) (fun h_74 x_74 q_74 => ?_)
      obtain ⟨e_74, f_74⟩ := q_74
      rw [e_74, f_74]
      rw [bI_eq (in5 _)]
      refine bx_if_eq_f (pc := 77) (tgt := 118) dX7_wanders_77 (by decide) (by rw [bI_t hx1.1.1]; decide) ?_
      refine ex_iload_n (pc := 80) dX7_wanders_80 rfl ?_
      refine ex_i2l (pc := 81) dX7_wanders_81 ?_
      refine ex_lconst (pc := 82) (v := 0) dX7_wanders_82 (by decide) ?_
      refine ex_ldc2_w (pc := 83) dX7_wanders_83 cn_X7_174 ?_
      refine cx_SL3i (pc := 86) dX7_wanders_86 lk_X7_69 rfl (Nat.le_of_ble_eq_true rfl) (Nat.le_of_ble_eq_true rfl) (by omega) (c_M_isIn _ _ _) (fun h_86 x_86 q_86 => ?_)
      obtain ⟨e_86, f_86⟩ := q_86
      rw [e_86, f_86]
      rw [bI_eq (in7 _)]
      refine bx_if_eq_f (pc := 89) (tgt := 118) dX7_wanders_89 (by decide) (by rw [bI_t hx1.1.2]; decide) ?_
      refine ex_aload_n (pc := 92) dX7_wanders_92 rfl ?_
      refine ex_bipush (pc := 93) (v := (nI 8)) dX7_wanders_93 (by decide) ?_
      refine ex_iload_n (pc := 95) dX7_wanders_95 rfl ?_
      refine ex_imul (pc := 96) dX7_wanders_96 ?_
      refine ex_iload_n (pc := 97) dX7_wanders_97 rfl ?_
      refine ex_iadd (pc := 98) dX7_wanders_98 ?_
      rw [hx1.2.2.1]
      refine cx_VL1i (pc := 99) dX7_wanders_99 lk_X7_80 hm rfl (Nat.le_of_ble_eq_true rfl) (Nat.le_of_ble_eq_true rfl) (by omega) (c_M_hasWall hM1 hx1.2.2.2) (fun h_99 x_99 q_99 => ?_)
      obtain ⟨e_99, f_99⟩ := q_99
      rw [e_99, f_99]
      rw [show upd s 9 (drw (s 9)) (42 + c) = s (42 + c) from upd_ne (by omega)]
      refine ex_if_ne (pc := 102) (tgt := 118) dX7_wanders_102 (by decide) (fun c_102 => ?_) (fun c_102 => ?_)
      · skip
        refine ex_vret dX7_wanders_118 rfl ?_
        refine qv_mk ?_
        first
        | (rw [mv_wall (s := s) (by rw [hσ, hth]; exact hx) (show wll s c = true from decide_eq_true (Decidable.not_not.mp (fun q => c_102 (bI_f q))))]; done)
        | (rw [mv_go (s := s) (by rw [hσ, hth]; exact hx) (fun q => (bI_0.mp c_102) (of_decide_eq_true q)), List.set_set]; done)
      · skip
        refine ex_aload_n (pc := 105) dX7_wanders_105 rfl ?_
        refine ex_get (pc := 106) dX7_wanders_106 fl_X7_7 hm rfl ?_
        refine ex_bipush (pc := 109) (v := (nI 7)) dX7_wanders_109 (by decide) ?_
        refine ex_bipush (pc := 111) (v := (nI 8)) dX7_wanders_111 (by decide) ?_
        refine ex_iload_n (pc := 113) dX7_wanders_113 rfl ?_
        refine ex_imul (pc := 114) dX7_wanders_114 ?_
        refine ex_iload_n (pc := 115) dX7_wanders_115 rfl ?_
        refine ex_iadd (pc := 116) dX7_wanders_116 ?_
        rw [hx1.2.2.1]
        refine ex_istn (k := 7) (pc := 117) dX7_wanders_117 hs (by first | rfl | (simp only [nI_add, nI_mul]; done) | (simp only [nI_add, nI_mul]; rfl)) (by omega) (by decide) ?_
        refine ex_vret dX7_wanders_118 rfl ?_
        refine qv_mk ?_
        first
        | (rw [mv_wall (s := s) (by rw [hσ, hth]; exact hx) (show wll s c = true from decide_eq_true (Decidable.not_not.mp (fun q => c_102 (bI_f q))))]; done)
        | (rw [mv_go (s := s) (by rw [hσ, hth]; exact hx) (fun q => (bI_0.mp c_102) (of_decide_eq_true q)), List.set_set]; done)
  · cases hx : nxt 3 th with
    | none =>
      refine ex_aload_n (pc := 0) dX7_wanders_0 rfl ?_
      refine cx_VL0i (pc := 1) dX7_wanders_1 lk_X7_202 hM.1 rfl (Nat.le_of_ble_eq_true rfl) (Nat.le_of_ble_eq_true rfl) (by omega) (c_M_drawn hM) (fun h_1 x_1 q_1 => ?_)
      obtain ⟨e_1, rfl⟩ := q_1
      rw [e_1]
      refine ex_iconst (pc := 4) (v := (nI 4)) dX7_wanders_4 (by decide) ?_
      refine ex_irem (pc := 5) dX7_wanders_5 (by decide) ?_
      rw [drv_rem (s 9) (by omega) (by omega), hσ]
      refine sx_istore_n (pc := 6) dX7_wanders_6 rfl (by decide) ?_
      show Ex _ _ _ _ _ _ [_, _, _, _] _ _ _
      refine ex_aload_n (pc := 7) dX7_wanders_7 rfl ?_
      refine ex_get (pc := 8) dX7_wanders_8 fl_X7_7 hm rfl ?_
      refine ex_bipush (pc := 11) (v := (nI 7)) dX7_wanders_11 (by decide) ?_
      refine ex_ildn (k := 7) (pc := 13) dX7_wanders_13 hs (by first | rfl | (simp only [nI_add, nI_mul]; done) | (simp only [nI_add, nI_mul]; rfl)) (by omega) (by decide) ?_
      rw [show upd s 9 (drw (s 9)) 7 = nI th from (upd_ne (by decide)).trans e7]
      refine ex_bipush (pc := 14) (v := (nI 8)) dX7_wanders_14 (by decide) ?_
      refine ex_idiv (pc := 16) dX7_wanders_16 (by decide) ?_
      refine ex_iload_n (pc := 17) dX7_wanders_17 rfl ?_
      refine bx_if_ne_t (pc := 18) (tgt := 25) dX7_wanders_18 (by decide) (by decide) ?_
      refine ex_iload_n (pc := 25) dX7_wanders_25 rfl ?_
      refine ex_iconst (pc := 26) (v := (nI 2)) dX7_wanders_26 (by decide) ?_
      refine bx_icmp_ne_t (pc := 27) (tgt := 34) dX7_wanders_27 (by decide) (by decide) ?_
      refine ex_iconst (pc := 34) (v := (nI 0)) dX7_wanders_34 (by decide) ?_
      refine ex_iadd (pc := 35) dX7_wanders_35 ?_
      rw [add0I]
      rw [← r32_3 th]
      refine sx_istore_n (pc := 36) dX7_wanders_36 rfl (by decide) ?_
      show Ex _ _ _ _ _ _ [_, _, _, _] _ _ _
      refine ex_aload_n (pc := 37) dX7_wanders_37 rfl ?_
      refine ex_get (pc := 38) dX7_wanders_38 fl_X7_7 hm rfl ?_
      refine ex_bipush (pc := 41) (v := (nI 7)) dX7_wanders_41 (by decide) ?_
      refine ex_ildn (k := 7) (pc := 43) dX7_wanders_43 hs (by first | rfl | (simp only [nI_add, nI_mul]; done) | (simp only [nI_add, nI_mul]; rfl)) (by omega) (by decide) ?_
      rw [show upd s 9 (drw (s 9)) 7 = nI th from (upd_ne (by decide)).trans e7]
      refine ex_bipush (pc := 44) (v := (nI 8)) dX7_wanders_44 (by decide) ?_
      refine ex_irem (pc := 46) dX7_wanders_46 (by decide) ?_
      refine ex_iload_n (pc := 47) dX7_wanders_47 rfl ?_
      refine ex_iconst (pc := 48) (v := (nI 1)) dX7_wanders_48 (by decide) ?_
      refine bx_icmp_ne_t (pc := 49) (tgt := 56) dX7_wanders_49 (by decide) (by decide) ?_
      refine ex_iload_n (pc := 56) dX7_wanders_56 rfl ?_
      refine ex_iconst (pc := 57) (v := (nI 3)) dX7_wanders_57 (by decide) ?_
      refine bx_icmp_ne_f (pc := 58) (tgt := 65) dX7_wanders_58 (by decide) (rfl) ?_
      refine ex_iconst (pc := 61) (v := (-1)) dX7_wanders_61 (by decide) ?_
      refine ex_goto (pc := 62) (tgt := 66) dX7_wanders_62 (by decide) ?_
      refine ex_iadd (pc := 66) dX7_wanders_66 ?_
      rw [← c32_3 th]
      refine sx_istore_n (pc := 67) dX7_wanders_67 rfl (by decide) ?_
      show Ex _ _ _ _ _ _ [_, _, _, _] _ _ _
      refine ex_iload_n (pc := 68) dX7_wanders_68 rfl ?_
      refine ex_i2l (pc := 69) dX7_wanders_69 ?_
      refine ex_lconst (pc := 70) (v := 0) dX7_wanders_70 (by decide) ?_
      refine ex_ldc2_w (pc := 71) dX7_wanders_71 cn_X7_154 ?_
      refine cx_SL3i (pc := 74) dX7_wanders_74 lk_X7_69 rfl (Nat.le_of_ble_eq_true rfl) (Nat.le_of_ble_eq_true rfl) (by omega) (c_M_isIn _ _ _) (fun h_74 x_74 q_74 => ?_)
      obtain ⟨e_74, f_74⟩ := q_74
      rw [e_74, f_74]
      rw [bI_eq (in5 _)]
      refine ex_if_eq (pc := 77) (tgt := 118) dX7_wanders_77 (by decide) (fun c_77 => ?_) (fun c_77 => ?_)
      · skip
        refine ex_vret dX7_wanders_118 rfl ?_
        refine qv_mk ?_
        rw [mv_same (by rw [hσ, hth]; exact hx)]
      · skip
        refine ex_iload_n (pc := 80) dX7_wanders_80 rfl ?_
        refine ex_i2l (pc := 81) dX7_wanders_81 ?_
        refine ex_lconst (pc := 82) (v := 0) dX7_wanders_82 (by decide) ?_
        refine ex_ldc2_w (pc := 83) dX7_wanders_83 cn_X7_174 ?_
        refine cx_SL3i (pc := 86) dX7_wanders_86 lk_X7_69 rfl (Nat.le_of_ble_eq_true rfl) (Nat.le_of_ble_eq_true rfl) (by omega) (c_M_isIn _ _ _) (fun h_86 x_86 q_86 => ?_)
        obtain ⟨e_86, f_86⟩ := q_86
        rw [e_86, f_86]
        rw [bI_eq (in7 _)]
        refine ex_if_eq (pc := 89) (tgt := 118) dX7_wanders_89 (by decide) (fun c_89 => ?_) (fun c_89 => ?_)
        · skip
          refine ex_vret dX7_wanders_118 rfl ?_
          refine qv_mk ?_
          rw [mv_same (by rw [hσ, hth]; exact hx)]
        · skip
          exact absurd ⟨Decidable.not_not.mp (fun q => c_77 (bI_f q)), Decidable.not_not.mp (fun q => c_89 (bI_f q))⟩ (nxt_n (by omega) hth2 hx)
    | some c =>
      have hx1 := nxt_s (by omega) hth2 hx
      refine ex_aload_n (pc := 0) dX7_wanders_0 rfl ?_
      refine cx_VL0i (pc := 1) dX7_wanders_1 lk_X7_202 hM.1 rfl (Nat.le_of_ble_eq_true rfl) (Nat.le_of_ble_eq_true rfl) (by omega) (c_M_drawn hM) (fun h_1 x_1 q_1 => ?_)
      obtain ⟨e_1, rfl⟩ := q_1
      rw [e_1]
      refine ex_iconst (pc := 4) (v := (nI 4)) dX7_wanders_4 (by decide) ?_
      refine ex_irem (pc := 5) dX7_wanders_5 (by decide) ?_
      rw [drv_rem (s 9) (by omega) (by omega), hσ]
      refine sx_istore_n (pc := 6) dX7_wanders_6 rfl (by decide) ?_
      show Ex _ _ _ _ _ _ [_, _, _, _] _ _ _
      refine ex_aload_n (pc := 7) dX7_wanders_7 rfl ?_
      refine ex_get (pc := 8) dX7_wanders_8 fl_X7_7 hm rfl ?_
      refine ex_bipush (pc := 11) (v := (nI 7)) dX7_wanders_11 (by decide) ?_
      refine ex_ildn (k := 7) (pc := 13) dX7_wanders_13 hs (by first | rfl | (simp only [nI_add, nI_mul]; done) | (simp only [nI_add, nI_mul]; rfl)) (by omega) (by decide) ?_
      rw [show upd s 9 (drw (s 9)) 7 = nI th from (upd_ne (by decide)).trans e7]
      refine ex_bipush (pc := 14) (v := (nI 8)) dX7_wanders_14 (by decide) ?_
      refine ex_idiv (pc := 16) dX7_wanders_16 (by decide) ?_
      refine ex_iload_n (pc := 17) dX7_wanders_17 rfl ?_
      refine bx_if_ne_t (pc := 18) (tgt := 25) dX7_wanders_18 (by decide) (by decide) ?_
      refine ex_iload_n (pc := 25) dX7_wanders_25 rfl ?_
      refine ex_iconst (pc := 26) (v := (nI 2)) dX7_wanders_26 (by decide) ?_
      refine bx_icmp_ne_t (pc := 27) (tgt := 34) dX7_wanders_27 (by decide) (by decide) ?_
      refine ex_iconst (pc := 34) (v := (nI 0)) dX7_wanders_34 (by decide) ?_
      refine ex_iadd (pc := 35) dX7_wanders_35 ?_
      rw [add0I]
      rw [← r32_3 th]
      refine sx_istore_n (pc := 36) dX7_wanders_36 rfl (by decide) ?_
      show Ex _ _ _ _ _ _ [_, _, _, _] _ _ _
      refine ex_aload_n (pc := 37) dX7_wanders_37 rfl ?_
      refine ex_get (pc := 38) dX7_wanders_38 fl_X7_7 hm rfl ?_
      refine ex_bipush (pc := 41) (v := (nI 7)) dX7_wanders_41 (by decide) ?_
      refine ex_ildn (k := 7) (pc := 43) dX7_wanders_43 hs (by first | rfl | (simp only [nI_add, nI_mul]; done) | (simp only [nI_add, nI_mul]; rfl)) (by omega) (by decide) ?_
      rw [show upd s 9 (drw (s 9)) 7 = nI th from (upd_ne (by decide)).trans e7]
      refine ex_bipush (pc := 44) (v := (nI 8)) dX7_wanders_44 (by decide) ?_
      refine ex_irem (pc := 46) dX7_wanders_46 (by decide) ?_
      refine ex_iload_n (pc := 47) dX7_wanders_47 rfl ?_
      refine ex_iconst (pc := 48) (v := (nI 1)) dX7_wanders_48 (by decide) ?_
      refine bx_icmp_ne_t (pc := 49) (tgt := 56) dX7_wanders_49 (by decide) (by decide) ?_
      refine ex_iload_n (pc := 56) dX7_wanders_56 rfl ?_
      refine ex_iconst (pc := 57) (v := (nI 3)) dX7_wanders_57 (by decide) ?_
      refine bx_icmp_ne_f (pc := 58) (tgt := 65) dX7_wanders_58 (by decide) (rfl) ?_
      refine ex_iconst (pc := 61) (v := (-1)) dX7_wanders_61 (by decide) ?_
      refine ex_goto (pc := 62) (tgt := 66) dX7_wanders_62 (by decide) ?_
      refine ex_iadd (pc := 66) dX7_wanders_66 ?_
      rw [← c32_3 th]
      refine sx_istore_n (pc := 67) dX7_wanders_67 rfl (by decide) ?_
      show Ex _ _ _ _ _ _ [_, _, _, _] _ _ _
      refine ex_iload_n (pc := 68) dX7_wanders_68 rfl ?_
      refine ex_i2l (pc := 69) dX7_wanders_69 ?_
      refine ex_lconst (pc := 70) (v := 0) dX7_wanders_70 (by decide) ?_
      refine ex_ldc2_w (pc := 71) dX7_wanders_71 cn_X7_154 ?_
      refine cx_SL3i (pc := 74) dX7_wanders_74 lk_X7_69 rfl (Nat.le_of_ble_eq_true rfl) (Nat.le_of_ble_eq_true rfl) (by omega) (c_M_isIn _ _ _) (fun h_74 x_74 q_74 => ?_)
      obtain ⟨e_74, f_74⟩ := q_74
      rw [e_74, f_74]
      rw [bI_eq (in5 _)]
      refine bx_if_eq_f (pc := 77) (tgt := 118) dX7_wanders_77 (by decide) (by rw [bI_t hx1.1.1]; decide) ?_
      refine ex_iload_n (pc := 80) dX7_wanders_80 rfl ?_
      refine ex_i2l (pc := 81) dX7_wanders_81 ?_
      refine ex_lconst (pc := 82) (v := 0) dX7_wanders_82 (by decide) ?_
      refine ex_ldc2_w (pc := 83) dX7_wanders_83 cn_X7_174 ?_
      refine cx_SL3i (pc := 86) dX7_wanders_86 lk_X7_69 rfl (Nat.le_of_ble_eq_true rfl) (Nat.le_of_ble_eq_true rfl) (by omega) (c_M_isIn _ _ _) (fun h_86 x_86 q_86 => ?_)
      obtain ⟨e_86, f_86⟩ := q_86
      rw [e_86, f_86]
      rw [bI_eq (in7 _)]
      refine bx_if_eq_f (pc := 89) (tgt := 118) dX7_wanders_89 (by decide) (by rw [bI_t hx1.1.2]; decide) ?_
      refine ex_aload_n (pc := 92) dX7_wanders_92 rfl ?_
      refine ex_bipush (pc := 93) (v := (nI 8)) dX7_wanders_93 (by decide) ?_
      refine ex_iload_n (pc := 95) dX7_wanders_95 rfl ?_
      refine ex_imul (pc := 96) dX7_wanders_96 ?_
      refine ex_iload_n (pc := 97) dX7_wanders_97 rfl ?_
      refine ex_iadd (pc := 98) dX7_wanders_98 ?_
      rw [hx1.2.2.1]
      refine cx_VL1i (pc := 99) dX7_wanders_99 lk_X7_80 hm rfl (Nat.le_of_ble_eq_true rfl) (Nat.le_of_ble_eq_true rfl) (by omega) (c_M_hasWall hM1 hx1.2.2.2) (fun h_99 x_99 q_99 => ?_)
      obtain ⟨e_99, f_99⟩ := q_99
      rw [e_99, f_99]
      rw [show upd s 9 (drw (s 9)) (42 + c) = s (42 + c) from upd_ne (by omega)]
      refine ex_if_ne (pc := 102) (tgt := 118) dX7_wanders_102 (by decide) (fun c_102 => ?_) (fun c_102 => ?_)
      · skip
        refine ex_vret dX7_wanders_118 rfl ?_
        refine qv_mk ?_
        first
        | (rw [mv_wall (s := s) (by rw [hσ, hth]; exact hx) (show wll s c = true from decide_eq_true (Decidable.not_not.mp (fun q => c_102 (bI_f q))))]; done)
        | (rw [mv_go (s := s) (by rw [hσ, hth]; exact hx) (fun q => (bI_0.mp c_102) (of_decide_eq_true q)), List.set_set]; done)
      · skip
        refine ex_aload_n (pc := 105) dX7_wanders_105 rfl ?_
        refine ex_get (pc := 106) dX7_wanders_106 fl_X7_7 hm rfl ?_
        refine ex_bipush (pc := 109) (v := (nI 7)) dX7_wanders_109 (by decide) ?_
        refine ex_bipush (pc := 111) (v := (nI 8)) dX7_wanders_111 (by decide) ?_
        refine ex_iload_n (pc := 113) dX7_wanders_113 rfl ?_
        refine ex_imul (pc := 114) dX7_wanders_114 ?_
        refine ex_iload_n (pc := 115) dX7_wanders_115 rfl ?_
        refine ex_iadd (pc := 116) dX7_wanders_116 ?_
        rw [hx1.2.2.1]
        refine ex_istn (k := 7) (pc := 117) dX7_wanders_117 hs (by first | rfl | (simp only [nI_add, nI_mul]; done) | (simp only [nI_add, nI_mul]; rfl)) (by omega) (by decide) ?_
        refine ex_vret dX7_wanders_118 rfl ?_
        refine qv_mk ?_
        first
        | (rw [mv_wall (s := s) (by rw [hσ, hth]; exact hx) (show wll s c = true from decide_eq_true (Decidable.not_not.mp (fun q => c_102 (bI_f q))))]; done)
        | (rw [mv_go (s := s) (by rw [hσ, hth]; exact hx) (fun q => (bI_0.mp c_102) (of_decide_eq_true q)), List.set_set]; done)

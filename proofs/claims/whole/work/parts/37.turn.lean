/-! the post that turns; hours of the class -/
theorem trn_no {s : Nat → Int32} {n : Nat} (h : ¬ (rm32 (drv (s 9)) (nI 100) < s 4 ∧ 0 < n)) : trnS s n = drS s := if_neg h
theorem trn_go {s : Nat → Int32} {n : Nat} (h : rm32 (drv (s 9)) (nI 100) < s 4 ∧ 0 < n) : trnS s n = upd (drS (drS s)) (10 + 4 * (dN (drS s 9) % n) + 2) (rm32 (s (10 + 4 * (dN (drS s 9) % n) + 2) + nI 1) (nI 4)) := if_pos h
theorem nI_lt0 {n : Nat} (h : ¬ nI n ≤ 0) : 0 < n := by
  rcases Nat.eq_zero_or_pos n with e | e
  · subst e; exact absurd (by decide) h
  · exact e
theorem nI_lt0' {n : Nat} (h : 0 < n) (h2 : n < 2147483648) : ¬ nI n ≤ 0 := nI_nle h h2
set_option maxHeartbeats 4000000 in
set_option maxRecDepth 100000 in
theorem c_R_turnPost {g : Gl} {d ks : Nat} {h : AH} {b n : Nat} {s : Nat → Int32} (hR : RoomB g h b s n) (hb : b ≤ 25) (hd : 1 ≤ d) : Ex g mX2_turnPost d 0 ks 0 [some (.ref (g.1 + b)), none, none] [] h (qv (fun h' => RoomB g h' b (trnS s n) n ∧ FrX (rmX b) g h h')) := by
  have hN := hR.2.1
  have hn8 := hR.2.2.1
  have hR1 : RoomB g (h.set b (rmC g b (upd s 9 (drw (s 9))) (setL (wll s) 48))) b (upd s 9 (drw (s 9))) n := hR.fld (k := 9) (drw (s 9)) (by omega) (by omega)
  have h1 : (h.set b (rmC g b (upd s 9 (drw (s 9))) (setL (wll s) 48)))[b]? = some (rmC g b (upd s 9 (drw (s 9))) (setL (wll s) 48)) := gs_eq hR.1
  have hR2 : RoomB g (h.set b (rmC g b (upd (upd s 9 (drw (s 9))) 9 (drw ((upd s 9 (drw (s 9))) 9))) (setL (wll s) 48))) b (upd (upd s 9 (drw (s 9))) 9 (drw ((upd s 9 (drw (s 9))) 9))) n := by
    have z := hR1.fld (k := 9) (drw ((upd s 9 (drw (s 9))) 9)) (by omega) (by omega)
    rw [List.set_set, wll_upd (by omega)] at z
    exact z
  have h2 : (h.set b (rmC g b (upd (upd s 9 (drw (s 9))) 9 (drw ((upd s 9 (drw (s 9))) 9))) (setL (wll s) 48)))[b]? = some (rmC g b (upd (upd s 9 (drw (s 9))) 9 (drw ((upd s 9 (drw (s 9))) 9))) (setL (wll s) 48)) := gs_eq hR.1
  have e0 : (upd (upd s 9 (drw (s 9))) 9 (drw ((upd s 9 (drw (s 9))) 9))) 0 = nI n := hR2.2.1
  obtain ⟨fp, hfp, hfp2⟩ := hR2.2.2.2.1
  refine ex_aload_n (pc := 0) dX2_turnPost_0 rfl ?_
  refine cx_VL0i (pc := 1) dX2_turnPost_1 lk_X2_81 hR.1 rfl (Nat.le_of_ble_eq_true rfl) (Nat.le_of_ble_eq_true rfl) (by omega) (c_R_draw hR) (fun h_1 x_1 q_1 => ?_)
  obtain ⟨e_1, rfl⟩ := q_1
  rw [e_1]
  refine ex_bipush (pc := 4) (v := (nI 100)) dX2_turnPost_4 (by decide) ?_
  refine ex_irem (pc := 6) dX2_turnPost_6 (by decide) ?_
  refine ex_aload_n (pc := 7) dX2_turnPost_7 rfl ?_
  refine ex_get (pc := 8) dX2_turnPost_8 fl_X2_31 h1 rfl ?_
  rw [show upd s 9 (drw (s 9)) 4 = s 4 from upd_ne (by decide)]
  refine ex_icmp_ge (pc := 11) (tgt := 18) dX2_turnPost_11 (by decide) (fun c_11 => ?_) (fun c_11 => ?_)
  · skip
    refine ex_iconst (pc := 18) (v := (nI 0)) dX2_turnPost_18 (by decide) ?_
    refine sx_istore_n (pc := 19) dX2_turnPost_19 rfl (by decide) ?_
    show Ex _ _ _ _ _ _ [_, _, _] _ _ _
    refine ex_iload_n (pc := 20) dX2_turnPost_20 rfl ?_
    refine bx_if_eq_t (pc := 21) (tgt := 58) dX2_turnPost_21 (by decide) (rfl) ?_
    refine ex_vret dX2_turnPost_58 rfl ?_
    refine qv_mk ⟨?_, ?_⟩
    · rw [trn_no (fun q => absurd q.1 (Int32.not_lt.mpr c_11))]; exact hR1
    · exact FrX.st (Or.inl rfl) (nscr (by omega))
  · skip
    refine ex_iconst (pc := 14) (v := (nI 1)) dX2_turnPost_14 (by decide) ?_
    refine ex_goto (pc := 15) (tgt := 19) dX2_turnPost_15 (by decide) ?_
    refine sx_istore_n (pc := 19) dX2_turnPost_19 rfl (by decide) ?_
    show Ex _ _ _ _ _ _ [_, _, _] _ _ _
    refine ex_iload_n (pc := 20) dX2_turnPost_20 rfl ?_
    refine bx_if_eq_f (pc := 21) (tgt := 58) dX2_turnPost_21 (by decide) (by decide) ?_
    refine ex_aload_n (pc := 24) dX2_turnPost_24 rfl ?_
    refine ex_get (pc := 25) dX2_turnPost_25 fl_X2_17 h1 rfl ?_
    rw [show upd s 9 (drw (s 9)) 0 = s 0 from upd_ne (by decide), hN]
    refine ex_if_le (pc := 28) (tgt := 58) dX2_turnPost_28 (by decide) (fun c_28 => ?_) (fun c_28 => ?_)
    · skip
      refine ex_vret dX2_turnPost_58 rfl ?_
      refine qv_mk ⟨?_, ?_⟩
      · rw [trn_no (fun q => absurd c_28 (nI_lt0' q.2 (by omega)))]; exact hR1
      · exact FrX.st (Or.inl rfl) (nscr (by omega))
    · skip
      have hnp : 0 < n := nI_lt0 c_28
      have hn0 : ¬ nI n = 0 := nI_ne0 hnp (by omega)
      have hkk : (dN (drS s 9) % n) < n := Nat.mod_lt _ hnp
      have hp := hR2.2.2.2.2.1 (dN (drS s 9) % n) hkk
      refine ex_aload_n (pc := 31) dX2_turnPost_31 rfl ?_
      refine ex_get (pc := 32) dX2_turnPost_32 fl_X2_11 h1 rfl ?_
      refine ex_aload_n (pc := 35) dX2_turnPost_35 rfl ?_
      refine cx_VL0i (pc := 36) dX2_turnPost_36 lk_X2_81 h1 rfl (Nat.le_of_ble_eq_true rfl) (Nat.le_of_ble_eq_true rfl) (by omega) (c_R_draw hR1) (fun h_36 x_36 q_36 => ?_)
      obtain ⟨e_36, rfl⟩ := q_36
      rw [e_36]
      rw [List.set_set]
      refine ex_aload_n (pc := 39) dX2_turnPost_39 rfl ?_
      refine ex_get (pc := 40) dX2_turnPost_40 fl_X2_17 h2 rfl ?_
      rw [show upd (upd s 9 (drw (s 9))) 9 (drw (upd s 9 (drw (s 9)) 9)) 0 = nI n from e0]
      refine ex_irem (pc := 43) dX2_turnPost_43 hn0 ?_
      refine ex_aldn (k := (dN (drS s 9) % n)) (v := .ref (g.1 + (b + 4 + (dN (drS s 9) % n)))) (pc := 44) dX2_turnPost_44 rfl hfp (drv_rem _ hnp (by omega)) (by omega) (by decide) (congrArg va_rf (hfp2 (dN (drS s 9) % n) (by omega))) ?_
      refine sx_astore_n (pc := 45) dX2_turnPost_45 rfl (by decide) ?_
      show Ex _ _ _ _ _ _ [_, _, _] _ _ _
      refine ex_aload_n (pc := 46) dX2_turnPost_46 rfl ?_
      refine ex_aload_n (pc := 47) dX2_turnPost_47 rfl ?_
      refine ex_get (pc := 48) dX2_turnPost_48 fl_X2_98 hp rfl ?_
      refine ex_iconst (pc := 51) (v := (nI 1)) dX2_turnPost_51 (by decide) ?_
      refine ex_iadd (pc := 52) dX2_turnPost_52 ?_
      refine ex_iconst (pc := 53) (v := (nI 4)) dX2_turnPost_53 (by decide) ?_
      refine ex_irem (pc := 54) dX2_turnPost_54 (by decide) ?_
      refine ex_put (pc := 55) dX2_turnPost_55 fp_X2_98 hp (Nat.le_of_ble_eq_true rfl) rfl rfl ?_
      rw [ps_2]
      refine ex_vret dX2_turnPost_58 rfl ?_
      refine qv_mk ⟨?_, ?_⟩
      · rw [trn_go ⟨Int32.not_le.mp c_11, hnp⟩]
        have z := hR2.pst (i := (dN (drS s 9) % n)) (f := 2) (rm32 (s (10 + 4 * (dN (drS s 9) % n) + 2) + nI 1) (nI 4)) hkk (by omega)
        have es : upd (upd s 9 (drw (s 9))) 9 (drw (upd s 9 (drw (s 9)) 9)) (10 + 4 * (dN (drS s 9) % n) + 2) = s (10 + 4 * (dN (drS s 9) % n) + 2) := (upd_ne (by omega)).trans (upd_ne (by omega))
        rw [es]
        exact z
      · exact (FrX.st (Or.inl rfl) (nscr (by omega))).tr (FrX.st (Or.inr ⟨by omega, by omega⟩) (nscr (by omega)))

/-! hours of the class -/
def hiS (s s' : Nat → Int32) : Prop := ∀ k, (k = 0 ∨ k = 1 ∨ 10 ≤ k) → s' k = s k
theorem hiS.rf {s : Nat → Int32} : hiS s s := fun _ _ => rfl
theorem hiS.tr {s s' s'' : Nat → Int32} (a : hiS s s') (b : hiS s' s'') : hiS s s'' := fun k hk => (b k hk).trans (a k hk)
theorem hiS.up {s : Nat → Int32} {k : Nat} {v : Int32} (h : 2 ≤ k) (h2 : k < 10) : hiS s (upd s k v) := fun j hj => upd_ne (by omega)
theorem hiS.wl {s s' : Nat → Int32} (d : hiS s s') : wll s' = wll s := by
  funext c; unfold wll; rw [d _ (by omega)]
theorem RoomB.hi {g : Gl} {h : AH} {b n : Nat} {s s' : Nat → Int32} (hR : RoomB g h b s n) (d : hiS s s') : RoomB g (h.set b (rmC g b s' (setL (wll s) 48))) b s' n := by
  obtain ⟨a1, a2, a3, ⟨fp, a4, a5⟩, a6, a7⟩ := hR
  refine ⟨?_, (d 0 (by omega)).trans a2, a3, ⟨fp, gs_ne (by omega) a4, a5⟩, fun i hi => ?_, fun i hi => ?_⟩
  · rw [d.wl]; exact gs_eq a1
  · refine gs_ne (by omega) ?_
    have e := a6 i hi
    unfold pS at e ⊢
    rw [d (10 + 4 * i + 0) (by omega), d (10 + 4 * i + 1) (by omega), d (10 + 4 * i + 2) (by omega), d (10 + 4 * i + 3) (by omega)]
    exact e
  · obtain ⟨kd, ce, si, ti, e⟩ := a7 i hi
    exact ⟨kd, ce, si, ti, gs_ne (by omega) e⟩
theorem FrX.rm {g : Gl} {h : AH} {b : Nat} {c : va_E} (hb : b ≤ 25) : FrX (rmX b) g h (h.set b c) := FrX.st (Or.inl rfl) (nscr (by omega))
theorem mv_hi (s : Nat → Int32) : hiS s (mvS s) := by
  have hd : hiS s (drS s) := hiS.up (by omega) (by omega)
  cases hx : nxt (dN (s 9) % 4) (thf s) with
  | none => rw [mv_same hx]; exact hd
  | some c =>
    by_cases hw : wll s c = true
    · rw [mv_wall hx hw]; exact hd
    · rw [mv_go hx hw]; exact hd.tr (hiS.up (by omega) (by omega))
theorem fnd_un {s : Nat → Int32} {nt n : Nat} (h : rm32 (drv (s 9)) (nI 100) < s 3 ∨ cgt (drS s) nt n = false) : fndS s nt n = upd (drS s) 6 (drS s 6 + nI 1) := if_pos h
theorem fnd_ca {s : Nat → Int32} {nt n : Nat} (h : ¬ (rm32 (drv (s 9)) (nI 100) < s 3 ∨ cgt (drS s) nt n = false)) : fndS s nt n = upd (drS s) 5 (drS s 5 + nI 1) := if_neg h
theorem clampN {N : Int32} {k : Nat} (hk : k ≤ N.toNatClampNeg) : N ≤ nI k ↔ N.toNatClampNeg ≤ k := by
  have h1 : N.toInt < 2147483648 := Int32.toInt_lt N
  have e : N.toNatClampNeg = N.toInt.toNat := rfl
  rw [Int32.le_iff_toInt_le, nI_toInt (by omega)]
  omega
set_option maxHeartbeats 4000000 in
set_option maxRecDepth 100000 in
theorem c_R_passHours_l {g : Gl} {d ks : Nat} {h : AH} {b n nt : Nat} {s : Nat → Int32} (hok : HOk s n) (hb : b ≤ 25) (hd : 4 ≤ d) (N : Int32) {M : Nat} (hM : N.toNatClampNeg = M) : ∀ (m k : Nat) (h1 : AH), CR g h1 b (hrsS s nt n k) n nt → FrX (rmX b) g h h1 → k + m = M → Ex g mX2_passHours d 0 ks 2 [some (.ref (g.1 + b)), some (.int N), some (.int (nI k))] [] h1 (qv (fun h' => CR g h' b (hrsS s nt n M) n nt ∧ FrX (rmX b) g h h')) := by
  intro m
  induction m with
  | zero =>
    intro k h1 hC1 hF hk
    refine ex_iload_n (pc := 2) dX2_passHours_2 rfl ?_
    refine ex_iload_n (pc := 3) dX2_passHours_3 rfl ?_
    refine bx_icmp_ge_t (pc := 4) (tgt := 79) dX2_passHours_4 (by decide) ((clampN (by omega)).mpr (by omega)) ?_
    refine ex_vret dX2_passHours_79 rfl ?_
    obtain rfl : k = M := by omega
    exact qv_mk ⟨hC1, hF⟩
  | succ m ih =>
    intro k h1 hC1 hF hk
    have hok1 := (hrs_ok (nt := nt) hok k).1
    have hok2 := hr_ok (nt := nt) hok1
    have esucc : hrsS s nt n (k + 1) = hrS (hrsS s nt n k) nt n := rfl
    replace ih := ih (k + 1)
    rw [esucc] at ih
    generalize hrsS s nt n k = u at hC1 hok1 hok2 ih esucc
    obtain ⟨th, hth2, e7⟩ := hok1.2
    obtain ⟨okv, lowv⟩ := mv_ok hok1
    obtain ⟨th3, hth3, e7v⟩ := okv.2
    have e73 : (upd (mvS u) 9 (drw ((mvS u) 9))) 7 = nI th3 := (upd_ne (by decide)).trans e7v
    have hR2 : RoomB g (h1.set b (rmC g b (mvS u) (setL (wll u) 48))) b (mvS u) n := hC1.1.hi (mv_hi u)
    have hR3 : RoomB g (h1.set b (rmC g b (upd (mvS u) 9 (drw ((mvS u) 9))) (setL (wll u) 48))) b (upd (mvS u) 9 (drw ((mvS u) 9))) n := hC1.1.hi ((mv_hi u).tr (hiS.up (by omega) (by omega)))
    have h3 : (h1.set b (rmC g b (upd (mvS u) 9 (drw ((mvS u) 9))) (setL (wll u) 48)))[b]? = some (rmC g b (upd (mvS u) 9 (drw ((mvS u) 9))) (setL (wll u) 48)) := gs_eq hC1.1.1
    have hF3 : FrX (rmX b) g h1 (h1.set b (rmC g b (upd (mvS u) 9 (drw ((mvS u) 9))) (setL (wll u) 48))) := FrX.st (Or.inl rfl) (nscr (by omega))
    have hC3 : CR g (h1.set b (rmC g b (upd (mvS u) 9 (drw ((mvS u) 9))) (setL (wll u) 48))) b (upd (mvS u) 9 (drw ((mvS u) 9))) n nt := hC1.upd hF3 (lowv.tr (lowD.up (by omega) (by omega))) hR3 (okv.1.low (by omega) (by omega))
    have dwl : wll (upd (mvS u) 9 (drw ((mvS u) 9))) = wll u := (wll_upd (by omega)).trans (mv_hi u).wl
    have tail : ∀ (h5 : AH) (t : Nat → Int32), fndS (mvS u) nt n = t → RoomB g h5 b t n → FrX (rmX b) g h1 h5 → Ex g mX2_passHours d 0 ks 55 [some (.ref (g.1 + b)), some (.int N), some (.int (nI k))] [] h5 (qv (fun h' => CR g h' b (hrsS s nt n M) n nt ∧ FrX (rmX b) g h h')) := by
      intro h5 t et0 hR5 hF5
      have et : hrS u nt n = upd (trnS (tirS t n) n) 2 (trnS (tirS t n) n 2 + nI 1) := by unfold hrS; rw [et0]
      refine ex_aload_n (pc := 55) dX2_passHours_55 rfl ?_
      refine cx_VL0v (pc := 56) dX2_passHours_56 lk_X2_165 hR5.1 rfl (Nat.le_of_ble_eq_true rfl) (Nat.le_of_ble_eq_true rfl) (by omega) (c_R_tirePosts hR5 hb (by omega)) (fun h_56 q_56 => ?_)
      obtain ⟨hR6, hF6⟩ := q_56
      refine ex_aload_n (pc := 59) dX2_passHours_59 rfl ?_
      refine cx_VL0v (pc := 60) dX2_passHours_60 lk_X2_168 hR6.1 rfl (Nat.le_of_ble_eq_true rfl) (Nat.le_of_ble_eq_true rfl) (by omega) (c_R_turnPost hR6 hb (by omega)) (fun h_60 q_60 => ?_)
      obtain ⟨hR7, hF7⟩ := q_60
      refine ex_aload_n (pc := 63) dX2_passHours_63 rfl ?_
      refine ex_dup (pc := 64) dX2_passHours_64 rfl ?_
      refine ex_get (pc := 65) dX2_passHours_65 fl_X2_40 hR7.1 rfl ?_
      refine ex_iconst (pc := 68) (v := (nI 1)) dX2_passHours_68 (by decide) ?_
      refine ex_iadd (pc := 69) dX2_passHours_69 ?_
      refine ex_put (pc := 70) dX2_passHours_70 fp_X2_40 hR7.1 (Nat.le_of_ble_eq_true rfl) rfl rfl ?_
      rw [rm_2]
      first | refine sx_inc (pc := 73) dX2_passHours_73 rfl rfl (by decide) ?_ | refine sx_iinc (pc := 73) dX2_passHours_73 rfl rfl (by decide) ?_
      show Ex _ _ _ _ _ _ [_, _, _] _ _ _
      refine ex_goto (pc := 76) (tgt := 2) dX2_passHours_76 (by decide) ?_
      have hR9 := hR7.fld (k := 2) (trnS (tirS t n) n 2 + nI 1) (by omega) (by omega)
      rw [← et] at hR9 ⊢
      exact ih _ (hC1.upd (hF5.tr ((hF6.tr hF7).tr (FrX.rm hb))) hok2.2 hR9 hok2.1.1) (hF.tr (hF5.tr ((hF6.tr hF7).tr (FrX.rm hb)))) (by omega)
    clear ih
    refine ex_iload_n (pc := 2) dX2_passHours_2 rfl ?_
    refine ex_iload_n (pc := 3) dX2_passHours_3 rfl ?_
    refine bx_icmp_ge_f (pc := 4) (tgt := 79) dX2_passHours_4 (by decide) (fun q => absurd ((clampN (by omega)).mp q) (by omega)) ?_
    refine ex_aload_n (pc := 7) dX2_passHours_7 rfl ?_
    refine cx_VL0v (pc := 8) dX2_passHours_8 lk_X2_158 hC1.1.1 rfl (Nat.le_of_ble_eq_true rfl) (Nat.le_of_ble_eq_true rfl) (by omega) (c_R_moveThief hC1.1 (by omega) e7 hth2) (fun h_8 q_8 => ?_)
    rw [q_8]
    refine ex_aload_n (pc := 11) dX2_passHours_11 rfl ?_
    refine cx_VL0i (pc := 12) dX2_passHours_12 lk_X2_81 hR2.1 rfl (Nat.le_of_ble_eq_true rfl) (Nat.le_of_ble_eq_true rfl) (by omega) (c_R_draw hR2) (fun h_12 x_12 q_12 => ?_)
    obtain ⟨e_12, rfl⟩ := q_12
    rw [e_12]
    rw [List.set_set, (mv_hi u).wl]
    refine ex_bipush (pc := 15) (v := (nI 100)) dX2_passHours_15 (by decide) ?_
    refine ex_irem (pc := 17) dX2_passHours_17 (by decide) ?_
    refine ex_aload_n (pc := 18) dX2_passHours_18 rfl ?_
    refine ex_get (pc := 19) dX2_passHours_19 fl_X2_28 h3 rfl ?_
    rw [show (upd (mvS u) 9 (drw ((mvS u) 9))) 3 = (mvS u) 3 from upd_ne (by decide)]
    refine ex_icmp_lt (pc := 22) (tgt := 32) dX2_passHours_22 (by decide) (fun c_22 => ?_) (fun c_22 => ?_)
    · skip
      have hx4 : RoomB g (h1.set b (rmC g b (upd (mvS u) 9 (drw ((mvS u) 9))) (setL (wll u) 48))) b (upd (mvS u) 9 (drw ((mvS u) 9))) n := hR3
      refine ex_aload_n (pc := 32) dX2_passHours_32 rfl ?_
      refine ex_dup (pc := 33) dX2_passHours_33 rfl ?_
      refine ex_get (pc := 34) dX2_passHours_34 fl_X2_37 hx4.1 rfl ?_
      refine ex_iconst (pc := 37) (v := (nI 1)) dX2_passHours_37 (by decide) ?_
      refine ex_iadd (pc := 38) dX2_passHours_38 ?_
      refine ex_put (pc := 39) dX2_passHours_39 fp_X2_37 hx4.1 (Nat.le_of_ble_eq_true rfl) rfl rfl ?_
      rw [rm_6]
      refine ex_goto (pc := 42) (tgt := 55) dX2_passHours_42 (by decide) ?_
      exact tail _ _ (fnd_un (Or.inl c_22)) (hx4.fld (k := 6) ((upd (mvS u) 9 (drw ((mvS u) 9))) 6 + nI 1) (by omega) (by omega)) (hF3.tr (FrX.rm hb))
    · skip
      refine ex_aload_n (pc := 25) dX2_passHours_25 rfl ?_
      refine cx_VL0i (pc := 26) dX2_passHours_26 lk_X2_161 h3 rfl (Nat.le_of_ble_eq_true rfl) (Nat.le_of_ble_eq_true rfl) (by omega) (c_R_thiefIsSeen hC3 (by omega) e73 hth3) (fun h_26 x_26 q_26 => ?_)
      obtain ⟨hs_26, f_26⟩ := q_26
      rw [f_26]
      refine ex_if_ne (pc := 29) (tgt := 45) dX2_passHours_29 (by decide) (fun c_29 => ?_) (fun c_29 => ?_)
      · skip
        have hx4 := hR3.sq hb hs_26
        refine ex_aload_n (pc := 45) dX2_passHours_45 rfl ?_
        refine ex_dup (pc := 46) dX2_passHours_46 rfl ?_
        refine ex_get (pc := 47) dX2_passHours_47 fl_X2_34 hx4.1 rfl ?_
        refine ex_iconst (pc := 50) (v := (nI 1)) dX2_passHours_50 (by decide) ?_
        refine ex_iadd (pc := 51) dX2_passHours_51 ?_
        refine ex_put (pc := 52) dX2_passHours_52 fp_X2_34 hx4.1 (Nat.le_of_ble_eq_true rfl) rfl rfl ?_
        rw [rm_5]
        exact tail _ _ (fnd_ca (fun q => q.elim (fun z => c_22 z) (fun z => c_29 (bI_f (by rw [z]; decide))))) (hx4.fld (k := 5) ((upd (mvS u) 9 (drw ((mvS u) 9))) 5 + nI 1) (by omega) (by omega)) ((hF3.tr hs_26.fr).tr (FrX.rm hb))
      · skip
        have hx4 := hR3.sq hb hs_26
        refine ex_aload_n (pc := 32) dX2_passHours_32 rfl ?_
        refine ex_dup (pc := 33) dX2_passHours_33 rfl ?_
        refine ex_get (pc := 34) dX2_passHours_34 fl_X2_37 hx4.1 rfl ?_
        refine ex_iconst (pc := 37) (v := (nI 1)) dX2_passHours_37 (by decide) ?_
        refine ex_iadd (pc := 38) dX2_passHours_38 ?_
        refine ex_put (pc := 39) dX2_passHours_39 fp_X2_37 hx4.1 (Nat.le_of_ble_eq_true rfl) rfl rfl ?_
        rw [rm_6]
        refine ex_goto (pc := 42) (tgt := 55) dX2_passHours_42 (by decide) ?_
        exact tail _ _ (fnd_un (Or.inr (Bool.eq_false_iff.mpr (bI_0.mp c_29)))) (hx4.fld (k := 6) ((upd (mvS u) 9 (drw ((mvS u) 9))) 6 + nI 1) (by omega) (by omega)) ((hF3.tr hs_26.fr).tr (FrX.rm hb))
set_option maxHeartbeats 4000000 in
set_option maxRecDepth 100000 in
theorem c_R_passHours {g : Gl} {d ks : Nat} {h : AH} {b n nt : Nat} {s : Nat → Int32} (hC : CR g h b s n nt) (hok : HOk s n) (hd : 4 ≤ d) (N : Int32) : Ex g mX2_passHours d 0 ks 0 [some (.ref (g.1 + b)), some (.int N), none] [] h (qv (fun h' => CR g h' b (hrsS s nt n N.toNatClampNeg) n nt ∧ FrX (rmX b) g h h')) := by
  refine ex_iconst (pc := 0) (v := (nI 0)) dX2_passHours_0 (by decide) ?_
  refine sx_istore_n (pc := 1) dX2_passHours_1 rfl (by decide) ?_
  show Ex _ _ _ _ _ _ [_, _, _] _ _ _
  exact c_R_passHours_l hok hC.2.2.2.2 hd N rfl N.toNatClampNeg 0 h hC FrX.rf (by omega)

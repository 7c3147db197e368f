/-! an hour of the reference, and many -/
set_option maxHeartbeats 4000000 in
set_option maxRecDepth 100000 in
theorem c_M_goesOn {g : Gl} {d ks : Nat} {h : AH} {z s : Nat → Int32} {n nt : Nat} (hR : MR g h z s n nt) (hok : HOk s n) (hd : 7 ≤ d) : Ex g mX7_goesOn d 0 ks 0 [some (.ref (g.1 + 75)), none] [] h (qv (fun h' => MR g h' z (hrS s nt n) n nt ∧ FrX mX g h h')) := by
  have hok2 := hr_ok (nt := nt) hok
  obtain ⟨th, hth2, e7⟩ := hok.2
  obtain ⟨okv, lowv⟩ := mv_ok hok
  obtain ⟨th3, hth3, e7v⟩ := okv.2
  have e73 : (upd (mvS s) 9 (drw ((mvS s) 9))) 7 = nI th3 := (upd_ne (by decide)).trans e7v
  have hM2 : Ms g (h.set 76 (ia g 3090 (mvS s))) z (mvS s) := hR.1.st _
  have hM3 : Ms g (h.set 76 (ia g 3090 (upd (mvS s) 9 (drw ((mvS s) 9))))) z (upd (mvS s) 9 (drw ((mvS s) 9))) := hR.1.st _
  have hF3 : FrX mX g h (h.set 76 (ia g 3090 (upd (mvS s) 9 (drw ((mvS s) 9))))) := FrX.ms
  have hR3 : MR g (h.set 76 (ia g 3090 (upd (mvS s) 9 (drw ((mvS s) 9))))) z (upd (mvS s) 9 (drw ((mvS s) 9))) n nt := hR.upd hF3 (lowv.tr (lowD.up (by omega) (by omega))) hM3 (okv.1.low (by omega) (by omega))
  have tail : ∀ (h5 : AH) (t : Nat → Int32), fndS (mvS s) nt n = t → Ms g h5 z t → FrX mX g h h5 → Ex g mX7_goesOn d 0 ks 53 [some (.ref (g.1 + 75)), some (.int (nI 0))] [] h5 (qv (fun h' => MR g h' z (hrS s nt n) n nt ∧ FrX mX g h h')) := by
    intro h5 t et hM5 hF5
    have ht : HOk t n := by rw [← et]; exact (fnd_ok okv).1
    refine (c_M_goesOn_l (h := h) (by omega) ht n 0 h5 hM5 hF5 (by omega)).mono (fun h' r q => ?_)
    obtain ⟨rfl, q1, q2⟩ := q
    have eh : hrS s nt n = upd (trnS (tirS t n) n) 2 (trnS (tirS t n) n 2 + nI 1) := by unfold hrS; rw [et]
    rw [← eh] at q1
    exact qv_mk ⟨hR.upd q2 hok2.2 q1 hok2.1.1, q2⟩
  refine ex_aload_n (pc := 0) dX7_goesOn_0 rfl ?_
  refine cx_VL0v (pc := 1) dX7_goesOn_1 lk_X7_230 hR.1.1 rfl (Nat.le_of_ble_eq_true rfl) (Nat.le_of_ble_eq_true rfl) (by omega) (c_M_wanders hR.1 (by omega) e7 hth2) (fun h_1 q_1 => ?_)
  rw [q_1]
  refine ex_aload_n (pc := 4) dX7_goesOn_4 rfl ?_
  refine cx_VL0i (pc := 5) dX7_goesOn_5 lk_X7_202 hM2.1 rfl (Nat.le_of_ble_eq_true rfl) (Nat.le_of_ble_eq_true rfl) (by omega) (c_M_drawn hM2) (fun h_5 x_5 q_5 => ?_)
  obtain ⟨e_5, rfl⟩ := q_5
  rw [e_5]
  rw [List.set_set]
  refine ex_bipush (pc := 8) (v := (nI 100)) dX7_goesOn_8 (by decide) ?_
  refine ex_irem (pc := 10) dX7_goesOn_10 (by decide) ?_
  refine ex_aload_n (pc := 11) dX7_goesOn_11 rfl ?_
  refine ex_get (pc := 12) dX7_goesOn_12 fl_X7_7 hM3.1 rfl ?_
  refine ex_iconst (pc := 15) (v := (nI 3)) dX7_goesOn_15 (by decide) ?_
  refine ex_ildn (k := 3) (pc := 16) dX7_goesOn_16 hM3.2 (by first | rfl | (simp only [nI_add, nI_mul]; done) | (simp only [nI_add, nI_mul]; rfl)) (by omega) (by decide) ?_
  rw [show (upd (mvS s) 9 (drw ((mvS s) 9))) 3 = (mvS s) 3 from upd_ne (by decide)]
  refine ex_icmp_lt (pc := 17) (tgt := 27) dX7_goesOn_17 (by decide) (fun c_17 => ?_) (fun c_17 => ?_)
  · skip
    have hx := hM3
    refine ex_aload_n (pc := 27) dX7_goesOn_27 rfl ?_
    refine ex_get (pc := 28) dX7_goesOn_28 fl_X7_7 hx.1 rfl ?_
    refine ex_bipush (pc := 31) (v := (nI 6)) dX7_goesOn_31 (by decide) ?_
    refine ex_dup2 (pc := 33) dX7_goesOn_33 rfl rfl ?_
    refine ex_ildn (k := 6) (pc := 34) dX7_goesOn_34 hx.2 (by first | rfl | (simp only [nI_add, nI_mul]; done) | (simp only [nI_add, nI_mul]; rfl)) (by omega) (by decide) ?_
    refine ex_iconst (pc := 35) (v := (nI 1)) dX7_goesOn_35 (by decide) ?_
    refine ex_iadd (pc := 36) dX7_goesOn_36 ?_
    refine ex_istn (k := 6) (pc := 37) dX7_goesOn_37 hx.2 (by first | rfl | (simp only [nI_add, nI_mul]; done) | (simp only [nI_add, nI_mul]; rfl)) (by omega) (by decide) ?_
    refine ex_goto (pc := 38) (tgt := 51) dX7_goesOn_38 (by decide) ?_
    refine ex_iconst (pc := 51) (v := (nI 0)) dX7_goesOn_51 (by decide) ?_
    refine sx_istore_n (pc := 52) dX7_goesOn_52 rfl (by decide) ?_
    show Ex _ _ _ _ _ _ [_, _] _ _ _
    exact tail _ _ (fnd_un (Or.inl c_17)) (hx.st _) (hF3.tr FrX.ms)
  · skip
    refine ex_aload_n (pc := 20) dX7_goesOn_20 rfl ?_
    refine cx_VL0i (pc := 21) dX7_goesOn_21 lk_X7_233 hM3.1 rfl (Nat.le_of_ble_eq_true rfl) (Nat.le_of_ble_eq_true rfl) (by omega) (c_M_isCaught hR3 (by omega) e73 hth3) (fun h_21 x_21 q_21 => ?_)
    obtain ⟨hs_21, f_21⟩ := q_21
    rw [f_21]
    refine ex_if_ne (pc := 24) (tgt := 41) dX7_goesOn_24 (by decide) (fun c_24 => ?_) (fun c_24 => ?_)
    · skip
      have hx := (hR3.sq hs_21).1
      refine ex_aload_n (pc := 41) dX7_goesOn_41 rfl ?_
      refine ex_get (pc := 42) dX7_goesOn_42 fl_X7_7 hx.1 rfl ?_
      refine ex_iconst (pc := 45) (v := (nI 5)) dX7_goesOn_45 (by decide) ?_
      refine ex_dup2 (pc := 46) dX7_goesOn_46 rfl rfl ?_
      refine ex_ildn (k := 5) (pc := 47) dX7_goesOn_47 hx.2 (by first | rfl | (simp only [nI_add, nI_mul]; done) | (simp only [nI_add, nI_mul]; rfl)) (by omega) (by decide) ?_
      refine ex_iconst (pc := 48) (v := (nI 1)) dX7_goesOn_48 (by decide) ?_
      refine ex_iadd (pc := 49) dX7_goesOn_49 ?_
      refine ex_istn (k := 5) (pc := 50) dX7_goesOn_50 hx.2 (by first | rfl | (simp only [nI_add, nI_mul]; done) | (simp only [nI_add, nI_mul]; rfl)) (by omega) (by decide) ?_
      refine ex_iconst (pc := 51) (v := (nI 0)) dX7_goesOn_51 (by decide) ?_
      refine sx_istore_n (pc := 52) dX7_goesOn_52 rfl (by decide) ?_
      show Ex _ _ _ _ _ _ [_, _] _ _ _
      exact tail _ _ (fnd_ca (fun q => q.elim (fun z => c_17 z) (fun z => c_24 (bI_f (by rw [z]; decide))))) (hx.st _) ((hF3.tr hs_21.fr).tr FrX.ms)
    · skip
      have hx := (hR3.sq hs_21).1
      refine ex_aload_n (pc := 27) dX7_goesOn_27 rfl ?_
      refine ex_get (pc := 28) dX7_goesOn_28 fl_X7_7 hx.1 rfl ?_
      refine ex_bipush (pc := 31) (v := (nI 6)) dX7_goesOn_31 (by decide) ?_
      refine ex_dup2 (pc := 33) dX7_goesOn_33 rfl rfl ?_
      refine ex_ildn (k := 6) (pc := 34) dX7_goesOn_34 hx.2 (by first | rfl | (simp only [nI_add, nI_mul]; done) | (simp only [nI_add, nI_mul]; rfl)) (by omega) (by decide) ?_
      refine ex_iconst (pc := 35) (v := (nI 1)) dX7_goesOn_35 (by decide) ?_
      refine ex_iadd (pc := 36) dX7_goesOn_36 ?_
      refine ex_istn (k := 6) (pc := 37) dX7_goesOn_37 hx.2 (by first | rfl | (simp only [nI_add, nI_mul]; done) | (simp only [nI_add, nI_mul]; rfl)) (by omega) (by decide) ?_
      refine ex_goto (pc := 38) (tgt := 51) dX7_goesOn_38 (by decide) ?_
      refine ex_iconst (pc := 51) (v := (nI 0)) dX7_goesOn_51 (by decide) ?_
      refine sx_istore_n (pc := 52) dX7_goesOn_52 rfl (by decide) ?_
      show Ex _ _ _ _ _ _ [_, _] _ _ _
      exact tail _ _ (fnd_un (Or.inr (Bool.eq_false_iff.mpr (bI_0.mp c_24)))) (hx.st _) ((hF3.tr hs_21.fr).tr FrX.ms)
set_option maxHeartbeats 4000000 in
set_option maxRecDepth 100000 in
theorem c_M_goesOnMany_l {g : Gl} {d ks : Nat} {h : AH} {z s : Nat → Int32} {n nt : Nat} (hok : HOk s n) (hd : 8 ≤ d) (N : Int32) {M : Nat} (hM : N.toNatClampNeg = M) : ∀ (m k : Nat) (h1 : AH), MR g h1 z (hrsS s nt n k) n nt → FrX mX g h h1 → k + m = M → Ex g mX7_goesOnMany d 0 ks 2 [some (.ref (g.1 + 75)), some (.int N), some (.int (nI k))] [] h1 (qv (fun h' => MR g h' z (hrsS s nt n M) n nt ∧ FrX mX g h h')) := by
  intro m
  induction m with
  | zero =>
    intro k h1 hR1 hF hk
    refine ex_iload_n (pc := 2) dX7_goesOnMany_2 rfl ?_
    refine ex_iload_n (pc := 3) dX7_goesOnMany_3 rfl ?_
    refine bx_icmp_ge_t (pc := 4) (tgt := 17) dX7_goesOnMany_4 (by decide) ((clampN (by omega)).mpr (by omega)) ?_
    refine ex_vret dX7_goesOnMany_17 rfl ?_
    obtain rfl : k = M := by omega
    exact qv_mk ⟨hR1, hF⟩
  | succ m ih =>
    intro k h1 hR1 hF hk
    refine ex_iload_n (pc := 2) dX7_goesOnMany_2 rfl ?_
    refine ex_iload_n (pc := 3) dX7_goesOnMany_3 rfl ?_
    refine bx_icmp_ge_f (pc := 4) (tgt := 17) dX7_goesOnMany_4 (by decide) (fun q => absurd ((clampN (by omega)).mp q) (by omega)) ?_
    refine ex_aload_n (pc := 7) dX7_goesOnMany_7 rfl ?_
    refine cx_VL0v (pc := 8) dX7_goesOnMany_8 lk_X7_237 hR1.1.1 rfl (Nat.le_of_ble_eq_true rfl) (Nat.le_of_ble_eq_true rfl) (by omega) (c_M_goesOn hR1 (hrs_ok hok k).1 (by omega)) (fun h_8 q_8 => ?_)
    obtain ⟨q1, q2⟩ := q_8
    first | refine sx_inc (pc := 11) dX7_goesOnMany_11 rfl rfl (by decide) ?_ | refine sx_iinc (pc := 11) dX7_goesOnMany_11 rfl rfl (by decide) ?_
    show Ex _ _ _ _ _ _ [_, _, _] _ _ _
    refine ex_goto (pc := 14) (tgt := 2) dX7_goesOnMany_14 (by decide) ?_
    exact ih (k + 1) _ q1 (hF.tr q2) (by omega)
set_option maxHeartbeats 4000000 in
set_option maxRecDepth 100000 in
theorem c_M_goesOnMany {g : Gl} {d ks : Nat} {h : AH} {z s : Nat → Int32} {n nt : Nat} (hR : MR g h z s n nt) (hok : HOk s n) (hd : 8 ≤ d) (N : Int32) : Ex g mX7_goesOnMany d 0 ks 0 [some (.ref (g.1 + 75)), some (.int N), none] [] h (qv (fun h' => MR g h' z (hrsS s nt n N.toNatClampNeg) n nt ∧ FrX mX g h h')) := by
  refine ex_iconst (pc := 0) (v := (nI 0)) dX7_goesOnMany_0 (by decide) ?_
  refine sx_istore_n (pc := 1) dX7_goesOnMany_1 rfl (by decide) ?_
  show Ex _ _ _ _ _ _ [_, _, _] _ _ _
  exact c_M_goesOnMany_l hok hd N rfl N.toNatClampNeg 0 h hR FrX.rf (by omega)

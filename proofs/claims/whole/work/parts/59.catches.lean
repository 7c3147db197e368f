/-! when the thief is caught; where one had best face, what one had best be -/
noncomputable def ctF (s : Nat → Int32) (nt n k : Nat) : Bool := decide (s 5 < hrsS s nt n k 5)
noncomputable def aCatches (s : Nat → Int32) (n nt : Nat) : Int32 := oN (-1000000005) (fstB (ctF s nt n) 200 1)
set_option maxHeartbeats 4000000 in
set_option maxRecDepth 100000 in
theorem c_W_catches_l {g : Gl} {d ks : Nat} {h : AH} {ik wc : Int32} {s : Nat → Int32} {n nt : Nat} (hW : h[0]? = some (wtC g ik wc)) (hC : CR g h 1 s n nt) (hT : ThB g h) (hok : HOk s n) (hd : 5 ≤ d) : ∀ (m j : Nat) (h1 : AH), CR g h1 25 (hrsS s nt n j) n nt → FrX (rgX 25) g h h1 → j + m = 200 → Ex g mX6_catches d 0 ks 13 [some (.ref (g.1 + 0)), some (.int (nI (j + 1)))] [] h1 (qi (fun h' r => (ThB g h' ∧ FrX thX g h h') ∧ r = oN (-1000000005) (fstB (ctF s nt n) m (j + 1)))) := by
  intro m
  induction m with
  | zero =>
    intro j h1 hC25 hF hj
    refine ex_iload_n (pc := 13) dX6_catches_13 rfl ?_
    refine ex_sipush (pc := 14) (v := (nI 200)) dX6_catches_14 (by decide) ?_
    refine bx_icmp_gt_t (pc := 17) (tgt := 53) dX6_catches_17 (by decide) (nI_lt (by omega) (by omega)) ?_
    refine ex_ldc (pc := 53) dX6_catches_53 cn_X6_142 ?_
    refine ex_ret dX6_catches_55 rfl ?_
    exact qi_mk ⟨⟨ThB.mk hC25 hT hF, rg_th hF⟩, rfl⟩
  | succ m ih =>
    intro j h1 hC25 hF hj
    refine ex_iload_n (pc := 13) dX6_catches_13 rfl ?_
    refine ex_sipush (pc := 14) (v := (nI 200)) dX6_catches_14 (by decide) ?_
    refine bx_icmp_gt_f (pc := 17) (tgt := 53) dX6_catches_17 (by decide) (nI_nlt (by omega) (by omega)) ?_
    refine ex_aload_n (pc := 20) dX6_catches_20 rfl ?_
    refine ex_get (pc := 21) dX6_catches_21 fl_X6_23 (rg_0 hF hW) rfl ?_
    refine ex_iconst (pc := 24) (v := (nI 1)) dX6_catches_24 (by decide) ?_
    refine cx_VL1v (pc := 25) dX6_catches_25 lk_X6_212 hC25.1.1 rfl (Nat.le_of_ble_eq_true rfl) (Nat.le_of_ble_eq_true rfl) (by omega) (c_R_passHours hC25 (hrs_ok hok j).1 (by omega) _) (fun h_25 q_25 => ?_)
    obtain ⟨r2, u2⟩ := q_25
    rw [show (nI 1).toNatClampNeg = 1 by decide] at r2
    have F2 := hF.tr (rm_rg u2)
    have e1 : hrsS (hrsS s nt n j) nt n 1 = hrsS s nt n (j + 1) := rfl
    rw [e1] at r2
    refine ex_aload_n (pc := 28) dX6_catches_28 rfl ?_
    refine ex_get (pc := 29) dX6_catches_29 fl_X6_23 (rg_0 F2 hW) rfl ?_
    refine ex_get (pc := 32) dX6_catches_32 fl_X6_209 r2.1.1 rfl ?_
    refine ex_aload_n (pc := 35) dX6_catches_35 rfl ?_
    refine ex_get (pc := 36) dX6_catches_36 fl_X6_10 (rg_0 F2 hW) rfl ?_
    refine ex_get (pc := 39) dX6_catches_39 fl_X6_209 (rg_now F2 hC).1.1 rfl ?_
    refine ex_icmp_le (pc := 42) (tgt := 47) dX6_catches_42 (by decide) (fun c_42 => ?_) (fun c_42 => ?_)
    · skip
      first | refine sx_inc (pc := 47) dX6_catches_47 rfl rfl (by decide) ?_ | refine sx_iinc (pc := 47) dX6_catches_47 rfl rfl (by decide) ?_
      show Ex _ _ _ _ _ _ [_, _] _ _ _
      refine ex_goto (pc := 50) (tgt := 13) dX6_catches_50 (by decide) ?_
      refine (ih (j + 1) _ r2 F2 (by omega)).mono (fun h' r a => ?_)
      obtain ⟨x, e, a1, a2⟩ := a
      refine ⟨x, e, a1, ?_⟩
      rw [a2]
      have q : fstB (ctF s nt n) (m + 1) (j + 1) = fstB (ctF s nt n) m (j + 1 + 1) := by rw [fstB, if_neg (show ¬ ctF s nt n (j + 1) = true from fun z => absurd (of_decide_eq_true z) (Int32.not_lt.mpr c_42))]
      rw [q]
    · skip
      refine ex_iload_n (pc := 45) dX6_catches_45 rfl ?_
      refine ex_ret dX6_catches_46 rfl ?_
      refine qi_mk ⟨⟨ThB.mk r2 hT F2, rg_th F2⟩, ?_⟩
      rw [fstB, if_pos (show ctF s nt n (j + 1) = true from decide_eq_true (Int32.not_le.mp c_42))]
      rfl
set_option maxHeartbeats 4000000 in
set_option maxRecDepth 100000 in
theorem c_W_catches {g : Gl} {d ks : Nat} {h : AH} {ik wc : Int32} {s : Nat → Int32} {n nt : Nat} (hW : h[0]? = some (wtC g ik wc)) (hC : CR g h 1 s n nt) (hT : ThB g h) (hok : HOk s n) (hd : 5 ≤ d) : Ex g mX6_catches d 0 ks 0 [some (.ref (g.1 + 0)), none] [] h (qi (fun h' r => (ThB g h' ∧ FrX thX g h h') ∧ r = aCatches s n nt)) := by
  have hR := hC.1
  have hP := hC.2.1
  have hn8 := hP.2.1
  have hN := hR.2.1
  obtain ⟨fp, hfp, hfp2⟩ := hR.2.2.2.1
  obtain ⟨s0, w00, h25⟩ := hT.1.1
  refine ex_aload_n (pc := 0) dX6_catches_0 rfl ?_
  refine ex_get (pc := 1) dX6_catches_1 fl_X6_23 hW rfl ?_
  refine ex_aload_n (pc := 4) dX6_catches_4 rfl ?_
  refine ex_get (pc := 5) dX6_catches_5 fl_X6_10 hW rfl ?_
  refine cx_VL1v (pc := 8) dX6_catches_8 lk_X6_219 h25 rfl (Nat.le_of_ble_eq_true rfl) (Nat.le_of_ble_eq_true rfl) (by omega) (c_R_becomeAs (b := 25) (o := 1) (by omega) (Or.inr (by omega)) (by omega) hC hT.1) (fun h_8 q_8 => ?_)
  obtain ⟨r1, u1⟩ := q_8
  refine ex_iconst (pc := 11) (v := (nI 1)) dX6_catches_11 (by decide) ?_
  refine sx_istore_n (pc := 12) dX6_catches_12 rfl (by decide) ?_
  show Ex _ _ _ _ _ _ [_, _] _ _ _
  exact c_W_catches_l hW hC hT hok hd 200 0 h_8 r1 u1 (by omega)
set_option maxHeartbeats 4000000 in
set_option maxRecDepth 100000 in
theorem c_M_catches_l {g : Gl} {d ks : Nat} {h : AH} {z s : Nat → Int32} {n nt : Nat} (hR : MR g h z s n nt) (hT : MT g h) (hok : HOk s n) {c : Nat} (hc : s 5 = nI c) (hc2 : c < 1000000) (hd : 8 ≤ d) {h1 : AH} {ff : Nat → Int32} (r1 : MR g h1 z s n nt) (u1 : FrX c88 g h h1) (h88b : h1[88]? = some (ia g 90 ff)) (hff : ∀ j, j < 90 → ff j = s j) : ∀ (m k : Nat) (h2 : AH), MR g h2 z (hrsS s nt n k) n nt → FrX mX g h1 h2 → (∀ j, 1 ≤ j → j < k → ctF s nt n j = false) → k + m = 200 → Ex g mX7_catches d 0 ks 13 [some (.ref (g.1 + 75)), some (.int (s 5)), some (.int (nI (k))), none] [] h2 (qi (fun h' r => (MR g h' z s n nt ∧ MT g h' ∧ FrX mtX g h h') ∧ r = aCatches s n nt)) := by
  intro m
  induction m with
  | zero =>
    intro k h2 hR1 u2 hno hk
    refine ex_iload_n (pc := 13) dX7_catches_13 rfl ?_
    refine ex_sipush (pc := 14) (v := (nI 200)) dX7_catches_14 (by decide) ?_
    refine bx_icmp_ge_t (pc := 17) (tgt := 40) dX7_catches_17 (by decide) (by rw [show k = 200 by omega]; exact Int32.le_refl _) ?_
    refine ex_aload_n (pc := 40) dX7_catches_40 rfl ?_
    refine ex_get (pc := 41) dX7_catches_41 fl_X7_7 hR1.1.1 rfl ?_
    refine ex_iconst (pc := 44) (v := (nI 5)) dX7_catches_44 (by decide) ?_
    refine ex_ildn (k := 5) (pc := 45) dX7_catches_45 hR1.1.2 rfl (by decide) (by decide) ?_
    refine ex_iload_n (pc := 46) dX7_catches_46 rfl ?_
    refine ex_icmp_le (pc := 47) (tgt := 54) dX7_catches_47 (by decide) (fun c_47 => ?_) (fun c_47 => ?_)
    · skip
      refine ex_iconst (pc := 54) (v := (nI 0)) dX7_catches_54 (by decide) ?_
      refine sx_istore_n (pc := 55) dX7_catches_55 rfl (by decide) ?_
      show Ex _ _ _ _ _ _ [_, _, _, _] _ _ _
      refine ex_aload_n (pc := 56) dX7_catches_56 rfl ?_
      refine cx_VL0v (pc := 57) dX7_catches_57 lk_X7_256 hR1.1.1 rfl (Nat.le_of_ble_eq_true rfl) (Nat.le_of_ble_eq_true rfl) (by omega) (c_M_laysBack hR1.1 (u2.at (by unfold mX; omega) (nscr (by omega)) h88b)) (fun h_57 q_57 => ?_)
      obtain ⟨r3, u3, e75⟩ := q_57
      refine ex_iload_n (pc := 60) dX7_catches_60 rfl ?_
      refine bx_if_eq_t (pc := 61) (tgt := 68) dX7_catches_61 (by decide) (rfl) ?_
      refine ex_ldc (pc := 68) dX7_catches_68 cn_X7_68 ?_
      refine ex_ret dX7_catches_70 rfl ?_
      refine qi_mk ⟨bk_back hR hT u1 h88b hff u2 (ms_75 r1.1 hR1.1) (hrs_ok hok k).2 r3 u3 e75, ?_⟩
      unfold aCatches
      rw [fst_none 200 1 (fun j h1 h2 => ?_)]
      · rfl
      · by_cases e : j = k
        · subst e; exact decide_eq_false (Int32.not_lt.mpr c_47)
        · exact hno j h1 (by omega)
    · skip
      refine ex_iconst (pc := 50) (v := (nI 1)) dX7_catches_50 (by decide) ?_
      refine ex_goto (pc := 51) (tgt := 55) dX7_catches_51 (by decide) ?_
      refine sx_istore_n (pc := 55) dX7_catches_55 rfl (by decide) ?_
      show Ex _ _ _ _ _ _ [_, _, _, _] _ _ _
      refine ex_aload_n (pc := 56) dX7_catches_56 rfl ?_
      refine cx_VL0v (pc := 57) dX7_catches_57 lk_X7_256 hR1.1.1 rfl (Nat.le_of_ble_eq_true rfl) (Nat.le_of_ble_eq_true rfl) (by omega) (c_M_laysBack hR1.1 (u2.at (by unfold mX; omega) (nscr (by omega)) h88b)) (fun h_57 q_57 => ?_)
      obtain ⟨r3, u3, e75⟩ := q_57
      refine ex_iload_n (pc := 60) dX7_catches_60 rfl ?_
      refine bx_if_eq_f (pc := 61) (tgt := 68) dX7_catches_61 (by decide) (by decide) ?_
      refine ex_iload_n (pc := 64) dX7_catches_64 rfl ?_
      refine ex_goto (pc := 65) (tgt := 70) dX7_catches_65 (by decide) ?_
      refine ex_ret dX7_catches_70 rfl ?_
      refine qi_mk ⟨bk_back hR hT u1 h88b hff u2 (ms_75 r1.1 hR1.1) (hrs_ok hok k).2 r3 u3 e75, ?_⟩
      unfold aCatches
      rw [fst_some 200 1 k (by omega) (by omega) hno (decide_eq_true (Int32.not_le.mp c_47))]
      rfl
  | succ m ih =>
    intro k h2 hR1 u2 hno hk
    refine ex_iload_n (pc := 13) dX7_catches_13 rfl ?_
    refine ex_sipush (pc := 14) (v := (nI 200)) dX7_catches_14 (by decide) ?_
    refine bx_icmp_ge_f (pc := 17) (tgt := 40) dX7_catches_17 (by decide) (nI_ge (by omega) (by omega)) ?_
    refine ex_aload_n (pc := 20) dX7_catches_20 rfl ?_
    refine ex_get (pc := 21) dX7_catches_21 fl_X7_7 hR1.1.1 rfl ?_
    refine ex_iconst (pc := 24) (v := (nI 5)) dX7_catches_24 (by decide) ?_
    refine ex_ildn (k := 5) (pc := 25) dX7_catches_25 hR1.1.2 rfl (by decide) (by decide) ?_
    refine ex_iload_n (pc := 26) dX7_catches_26 rfl ?_
    refine ex_icmp_ne (pc := 27) (tgt := 40) dX7_catches_27 (by decide) (fun c_27 => ?_) (fun c_27 => ?_)
    · skip
      obtain ⟨c', q1, q2, q3⟩ := hrs_5 (s := s) (nt := nt) (n := n) k c hc
      have hk1 : 1 ≤ k := Nat.pos_of_ne_zero (fun e => c_27 (by rw [e]; rfl))
      have hgt : ¬ hrsS s nt n k 5 ≤ s 5 := by
        rw [q3, hc]
        rw [q3, hc] at c_27
        have : ¬ c' = c := fun e => c_27 (by rw [e])
        exact nI_ge (by omega) (by omega)
      refine ex_aload_n (pc := 40) dX7_catches_40 rfl ?_
      refine ex_get (pc := 41) dX7_catches_41 fl_X7_7 hR1.1.1 rfl ?_
      refine ex_iconst (pc := 44) (v := (nI 5)) dX7_catches_44 (by decide) ?_
      refine ex_ildn (k := 5) (pc := 45) dX7_catches_45 hR1.1.2 rfl (by decide) (by decide) ?_
      refine ex_iload_n (pc := 46) dX7_catches_46 rfl ?_
      refine bx_icmp_le_f (pc := 47) (tgt := 54) dX7_catches_47 (by decide) (hgt) ?_
      refine ex_iconst (pc := 50) (v := (nI 1)) dX7_catches_50 (by decide) ?_
      refine ex_goto (pc := 51) (tgt := 55) dX7_catches_51 (by decide) ?_
      refine sx_istore_n (pc := 55) dX7_catches_55 rfl (by decide) ?_
      show Ex _ _ _ _ _ _ [_, _, _, _] _ _ _
      refine ex_aload_n (pc := 56) dX7_catches_56 rfl ?_
      refine cx_VL0v (pc := 57) dX7_catches_57 lk_X7_256 hR1.1.1 rfl (Nat.le_of_ble_eq_true rfl) (Nat.le_of_ble_eq_true rfl) (by omega) (c_M_laysBack hR1.1 (u2.at (by unfold mX; omega) (nscr (by omega)) h88b)) (fun h_57 q_57 => ?_)
      obtain ⟨r3, u3, e75⟩ := q_57
      refine ex_iload_n (pc := 60) dX7_catches_60 rfl ?_
      refine bx_if_eq_f (pc := 61) (tgt := 68) dX7_catches_61 (by decide) (by decide) ?_
      refine ex_iload_n (pc := 64) dX7_catches_64 rfl ?_
      refine ex_goto (pc := 65) (tgt := 70) dX7_catches_65 (by decide) ?_
      refine ex_ret dX7_catches_70 rfl ?_
      refine qi_mk ⟨bk_back hR hT u1 h88b hff u2 (ms_75 r1.1 hR1.1) (hrs_ok hok k).2 r3 u3 e75, ?_⟩
      unfold aCatches
      rw [fst_some 200 1 k hk1 (by omega) hno (decide_eq_true (Int32.not_le.mp hgt))]
      rfl
    · skip
      refine ex_aload_n (pc := 30) dX7_catches_30 rfl ?_
      refine cx_VL0v (pc := 31) dX7_catches_31 lk_X7_237 hR1.1.1 rfl (Nat.le_of_ble_eq_true rfl) (Nat.le_of_ble_eq_true rfl) (by omega) (c_M_goesOn hR1 (hrs_ok hok k).1 (by omega)) (fun h_31 q_31 => ?_)
      obtain ⟨r4, u4⟩ := q_31
      first | refine sx_inc (pc := 34) dX7_catches_34 rfl rfl (by decide) ?_ | refine sx_iinc (pc := 34) dX7_catches_34 rfl rfl (by decide) ?_
      show Ex _ _ _ _ _ _ [_, _, _, _] _ _ _
      refine ex_goto (pc := 37) (tgt := 13) dX7_catches_37 (by decide) ?_
      exact ih (k + 1) _ r4 (u2.tr u4) (fun j h1 h2 => by
        by_cases e : j = k
        · subst e; exact decide_eq_false (by rw [c_27]; exact fun z => Int32.lt_irrefl z)
        · exact hno j h1 (by omega)) (by omega)
set_option maxHeartbeats 4000000 in
set_option maxRecDepth 100000 in
theorem c_M_catches {g : Gl} {d ks : Nat} {h : AH} {z s : Nat → Int32} {n nt : Nat} (hR : MR g h z s n nt) (hT : MT g h) (hok : HOk s n) {c : Nat} (hc : s 5 = nI c) (hc2 : c < 1000000) (hd : 8 ≤ d) : Ex g mX7_catches d 0 ks 0 [some (.ref (g.1 + 75)), none, none, none] [] h (qi (fun h' r => (MR g h' z s n nt ∧ MT g h' ∧ FrX mtX g h h') ∧ r = aCatches s n nt)) := by
  have hM := hR.1
  have hP := hR.2.1
  have hn8 := hP.2.1
  have hN := hP.1
  obtain ⟨f0, h88⟩ := hT.2.2.1
  refine ex_aload_n (pc := 0) dX7_catches_0 rfl ?_
  refine cx_VL0v (pc := 1) dX7_catches_1 lk_X7_253 hM.1 rfl (Nat.le_of_ble_eq_true rfl) (Nat.le_of_ble_eq_true rfl) (by omega) (c_M_laysBy hR h88) (fun h_1 q_1 => ?_)
  obtain ⟨r1, u1, ff, h88b, hff⟩ := q_1
  refine ex_aload_n (pc := 4) dX7_catches_4 rfl ?_
  refine ex_get (pc := 5) dX7_catches_5 fl_X7_7 r1.1.1 rfl ?_
  refine ex_iconst (pc := 8) (v := (nI 5)) dX7_catches_8 (by decide) ?_
  refine ex_ildn (k := 5) (pc := 9) dX7_catches_9 r1.1.2 rfl (by decide) (by decide) ?_
  refine sx_istore_n (pc := 10) dX7_catches_10 rfl (by decide) ?_
  show Ex _ _ _ _ _ _ [_, _, _, _] _ _ _
  refine ex_iconst (pc := 11) (v := (nI 0)) dX7_catches_11 (by decide) ?_
  refine sx_istore_n (pc := 12) dX7_catches_12 rfl (by decide) ?_
  show Ex _ _ _ _ _ _ [_, _, _, _] _ _ _
  exact c_M_catches_l hR hT hok hc hc2 hd r1 u1 h88b hff 200 0 h_1 r1 FrX.rf (fun j h1 h2 => absurd h1 (by omega)) (by omega)

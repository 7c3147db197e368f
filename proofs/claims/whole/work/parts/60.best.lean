/-! where one had best face, what one had best be -/
def fcF (f : Nat → Int32) : Nat → Int32 × Int32
  | 0 => (nI 0, -1)
  | v + 1 => if f v ≤ (fcF f v).2 then fcF f v else (nI v, f v)
theorem fc_le {f : Nat → Int32} {v : Nat} (h : f v ≤ (fcF f v).2) : fcF f (v + 1) = fcF f v := by rw [fcF, if_pos h]
theorem fc_gt {f : Nat → Int32} {v : Nat} (h : ¬ f v ≤ (fcF f v).2) : fcF f (v + 1) = (nI v, f v) := by rw [fcF, if_neg h]
/-- what is caught behind N hours if the number at place A is v -/
noncomputable def bsF (s : Nat → Int32) (n nt A N v : Nat) : Int32 := hrsS (upd s A (nI v)) nt n N 5
def okW (n : Nat) (p N w : Int32) : Bool := bw p n && (bq N 1 60 && bw w 2)
noncomputable def aFaces (s : Nat → Int32) (n nt : Nat) (p N w : Int32) : Int32 := if okW n p N w then (if w = nI 0 then (fcF (bsF s n nt (10 + 4 * ixI p + 2) (ixI N)) 4).1 else (fcF (bsF s n nt (10 + 4 * ixI p + 2) (ixI N)) 4).2) else -1000000001
noncomputable def aBecomes (s : Nat → Int32) (n nt : Nat) (p N w : Int32) : Int32 := if okW n p N w then (if w = nI 0 then (fcF (bsF s n nt (10 + 4 * ixI p + 0) (ixI N)) 6).1 else (fcF (bsF s n nt (10 + 4 * ixI p + 0) (ixI N)) 6).2) else -1000000001
theorem HOk.pst {s : Nat → Int32} {n : Nat} (h : HOk s n) {i f v m : Nat} (hf : f < 3) (hv : v < m) (hm : m = (if f = 0 then 6 else if f = 1 then 48 else 4)) : HOk (upd s (10 + 4 * i + f) (nI v)) n := by
  obtain ⟨h1, th, h2, h3⟩ := h
  exact ⟨h1.pst hf hv hm, th, h2, (upd_ne (by omega)).trans h3⟩
set_option maxHeartbeats 4000000 in
set_option maxRecDepth 100000 in
theorem c_W_isWeighed {g : Gl} {d ks : Nat} {h : AH} {ik wc : Int32} {s : Nat → Int32} {n nt : Nat} (hW : h[0]? = some (wtC g ik wc)) (hC : CR g h 1 s n nt) (hd : 2 ≤ d) (p N w : Int32) : Ex g mX6_isWeighed d 0 ks 0 [some (.ref (g.1 + 0)), some (.int p), some (.int N), some (.int w)] [] h (qi (fun h' r => h' = h ∧ r = bI (okW n p N w = true))) := by
  have hR := hC.1
  refine ex_aload_n (pc := 0) dX6_isWeighed_0 rfl ?_
  refine ex_iload_n (pc := 1) dX6_isWeighed_1 rfl ?_
  refine cx_VL1i (pc := 2) dX6_isWeighed_2 lk_X6_87 hW rfl (Nat.le_of_ble_eq_true rfl) (Nat.le_of_ble_eq_true rfl) (by omega) (c_W_isPost hW hR (by omega) _) (fun h_2 x_2 q_2 => ?_)
  obtain ⟨e_2, f_2⟩ := q_2
  rw [e_2, f_2]
  refine ex_if_eq (pc := 5) (tgt := 31) dX6_isWeighed_5 (by decide) (fun c_5 => ?_) (fun c_5 => ?_)
  · skip
    have b_5 := bF c_5
    refine ex_iconst (pc := 31) (v := 0) dX6_isWeighed_31 (by decide) ?_
    refine ex_zret dX6_isWeighed_32 rfl (by first | exact Or.inl rfl | exact Or.inr rfl | exact bI_01 _) ?_
    refine qi_mk ⟨rfl, ?_⟩
    simp [okW, b_5]
    try rfl
  · skip
    have b_5 := bT c_5
    refine ex_iload_n (pc := 8) dX6_isWeighed_8 rfl ?_
    refine ex_iconst (pc := 9) (v := (nI 1)) dX6_isWeighed_9 (by decide) ?_
    refine ex_icmp_lt (pc := 10) (tgt := 31) dX6_isWeighed_10 (by decide) (fun c_10 => ?_) (fun c_10 => ?_)
    · skip
      refine ex_iconst (pc := 31) (v := 0) dX6_isWeighed_31 (by decide) ?_
      refine ex_zret dX6_isWeighed_32 rfl (by first | exact Or.inl rfl | exact Or.inr rfl | exact bI_01 _) ?_
      refine qi_mk ⟨rfl, ?_⟩
      have k1 : bq N 1 60 = false := bq_f1 c_10
      simp [okW, b_5, k1]
      try rfl
    · skip
      refine ex_iload_n (pc := 13) dX6_isWeighed_13 rfl ?_
      refine ex_bipush (pc := 14) (v := (nI 60)) dX6_isWeighed_14 (by decide) ?_
      refine ex_icmp_gt (pc := 16) (tgt := 31) dX6_isWeighed_16 (by decide) (fun c_16 => ?_) (fun c_16 => ?_)
      · skip
        refine ex_iconst (pc := 31) (v := 0) dX6_isWeighed_31 (by decide) ?_
        refine ex_zret dX6_isWeighed_32 rfl (by first | exact Or.inl rfl | exact Or.inr rfl | exact bI_01 _) ?_
        refine qi_mk ⟨rfl, ?_⟩
        have k1 : bq N 1 60 = false := bq_f2 (Int32.not_le.mpr c_16)
        simp [okW, b_5, k1]
        try rfl
      · skip
        refine ex_iload_n (pc := 19) dX6_isWeighed_19 rfl ?_
        refine ex_iconst (pc := 20) (v := (nI 2)) dX6_isWeighed_20 (by decide) ?_
        refine cx_SL2i (pc := 21) dX6_isWeighed_21 lk_X6_69 rfl (Nat.le_of_ble_eq_true rfl) (Nat.le_of_ble_eq_true rfl) (by omega) (c_ib _ _) (fun h_21 x_21 q_21 => ?_)
        obtain ⟨e_21, f_21⟩ := q_21
        rw [e_21, f_21]
        refine ex_if_eq (pc := 24) (tgt := 31) dX6_isWeighed_24 (by decide) (fun c_24 => ?_) (fun c_24 => ?_)
        · skip
          have b_24 := bF c_24
          refine ex_iconst (pc := 31) (v := 0) dX6_isWeighed_31 (by decide) ?_
          refine ex_zret dX6_isWeighed_32 rfl (by first | exact Or.inl rfl | exact Or.inr rfl | exact bI_01 _) ?_
          refine qi_mk ⟨rfl, ?_⟩
          have k1 : bq N 1 60 = true := bq_t c_10 (Int32.not_lt.mp c_16)
          simp [okW, b_5, b_24, k1]
          try rfl
        · skip
          have b_24 := bT c_24
          refine ex_iconst (pc := 27) (v := 1) dX6_isWeighed_27 (by decide) ?_
          refine ex_goto (pc := 28) (tgt := 32) dX6_isWeighed_28 (by decide) ?_
          refine ex_zret dX6_isWeighed_32 rfl (by first | exact Or.inl rfl | exact Or.inr rfl | exact bI_01 _) ?_
          refine qi_mk ⟨rfl, ?_⟩
          have k1 : bq N 1 60 = true := bq_t c_10 (Int32.not_lt.mp c_16)
          simp [okW, b_5, b_24, k1]
          try rfl
set_option maxHeartbeats 4000000 in
set_option maxRecDepth 100000 in
theorem c_M_isAsked {g : Gl} {d ks : Nat} {h : AH} (hd : 1 ≤ d) (N w : Int32) : Ex g mX7_isAsked d 0 ks 0 [some (.int N), some (.int w)] [] h (qi (fun h' r => h' = h ∧ r = bI ((bq N 1 60 && bw w 2) = true))) := by
  refine ex_iload_n (pc := 0) dX7_isAsked_0 rfl ?_
  refine ex_i2l (pc := 1) dX7_isAsked_1 ?_
  refine ex_lconst (pc := 2) (v := 1) dX7_isAsked_2 (by decide) ?_
  refine ex_ldc2_w (pc := 3) dX7_isAsked_3 cn_X7_259 ?_
  refine cx_SL3i (pc := 6) dX7_isAsked_6 lk_X7_69 rfl (Nat.le_of_ble_eq_true rfl) (Nat.le_of_ble_eq_true rfl) (by omega) (c_M_inq _ (a := 1) (b := 60) (by decide) (by decide)) (fun h_6 x_6 q_6 => ?_)
  obtain ⟨e_6, f_6⟩ := q_6
  rw [e_6, f_6]
  refine ex_if_eq (pc := 9) (tgt := 26) dX7_isAsked_9 (by decide) (fun c_9 => ?_) (fun c_9 => ?_)
  · skip
    have b_9 := bF c_9
    refine ex_iconst (pc := 26) (v := 0) dX7_isAsked_26 (by decide) ?_
    refine ex_zret dX7_isAsked_27 rfl (by first | exact Or.inl rfl | exact Or.inr rfl | exact bI_01 _) ?_
    refine qi_mk ⟨rfl, ?_⟩
    simp [b_9]
    try rfl
  · skip
    have b_9 := bT c_9
    refine ex_iload_n (pc := 12) dX7_isAsked_12 rfl ?_
    refine ex_i2l (pc := 13) dX7_isAsked_13 ?_
    refine ex_lconst (pc := 14) (v := 0) dX7_isAsked_14 (by decide) ?_
    refine ex_lconst (pc := 15) (v := 1) dX7_isAsked_15 (by decide) ?_
    refine cx_SL3i (pc := 16) dX7_isAsked_16 lk_X7_69 rfl (Nat.le_of_ble_eq_true rfl) (Nat.le_of_ble_eq_true rfl) (by omega) (c_M_in _ (m := 2) (by decide)) (fun h_16 x_16 q_16 => ?_)
    obtain ⟨e_16, f_16⟩ := q_16
    rw [e_16, f_16]
    refine ex_if_eq (pc := 19) (tgt := 26) dX7_isAsked_19 (by decide) (fun c_19 => ?_) (fun c_19 => ?_)
    · skip
      have b_19 := bF c_19
      refine ex_iconst (pc := 26) (v := 0) dX7_isAsked_26 (by decide) ?_
      refine ex_zret dX7_isAsked_27 rfl (by first | exact Or.inl rfl | exact Or.inr rfl | exact bI_01 _) ?_
      refine qi_mk ⟨rfl, ?_⟩
      simp [b_9, b_19]
      try rfl
    · skip
      have b_19 := bT c_19
      refine ex_iconst (pc := 22) (v := 1) dX7_isAsked_22 (by decide) ?_
      refine ex_goto (pc := 23) (tgt := 27) dX7_isAsked_23 (by decide) ?_
      refine ex_zret dX7_isAsked_27 rfl (by first | exact Or.inl rfl | exact Or.inr rfl | exact bI_01 _) ?_
      refine qi_mk ⟨rfl, ?_⟩
      simp [b_9, b_19]
      try rfl
set_option maxHeartbeats 4000000 in
set_option maxRecDepth 100000 in
theorem c_W_faces_l {g : Gl} {d ks : Nat} {h : AH} {ik wc : Int32} {s : Nat → Int32} {n nt : Nat} (hok : HOk s n) {p0 : Nat} (hp0 : p0 < n) (hd : 5 ≤ d) (N w : Int32) : ∀ (m v : Nat) (h1 : AH), h1[0]? = some (wtC g ik wc) → CR g h1 1 s n nt → ThB g h1 → FrX thX g h h1 → v + m = 4 → Ex g mX6_faces d 0 ks 22 [some (.ref (g.1 + 0)), some (.int (nI p0)), some (.int N), some (.int w), some (.int (fcF (bsF s n nt (10 + 4 * p0 + 2) N.toNatClampNeg) (v)).1), some (.int (fcF (bsF s n nt (10 + 4 * p0 + 2) N.toNatClampNeg) (v)).2), some (.int (nI (v)))] [] h1 (qi (fun h' r => (ThB g h' ∧ FrX thX g h h') ∧ r = (if w = nI 0 then (fcF (bsF s n nt (10 + 4 * p0 + 2) N.toNatClampNeg) (4)).1 else (fcF (bsF s n nt (10 + 4 * p0 + 2) N.toNatClampNeg) (4)).2))) := by
  have hn8 := hok.1.2.1
  intro m
  induction m with
  | zero =>
    intro v h1 hW1 hC1 hT1 hF hv
    refine ex_iload (pc := 22) dX6_faces_22 rfl ?_
    refine ex_iconst (pc := 24) (v := (nI 4)) dX6_faces_24 (by decide) ?_
    refine bx_icmp_ge_t (pc := 25) (tgt := 92) dX6_faces_25 (by decide) (by rw [show v = 4 by omega]; exact Int32.le_refl _) ?_
    refine ex_iload_n (pc := 92) dX6_faces_92 rfl ?_
    refine ex_if_ne (pc := 93) (tgt := 101) dX6_faces_93 (by decide) (fun c_93 => ?_) (fun c_93 => ?_)
    · skip
      refine ex_iload (pc := 101) dX6_faces_101 rfl ?_
      refine ex_ret dX6_faces_103 rfl ?_
      obtain rfl : v = 4 := by omega
      refine qi_mk ⟨⟨hT1, hF⟩, ?_⟩
      rw [if_neg (show ¬ w = nI 0 from c_93)]
    · skip
      refine ex_iload (pc := 96) dX6_faces_96 rfl ?_
      refine ex_goto (pc := 98) (tgt := 103) dX6_faces_98 (by decide) ?_
      refine ex_ret dX6_faces_103 rfl ?_
      obtain rfl : v = 4 := by omega
      refine qi_mk ⟨⟨hT1, hF⟩, ?_⟩
      rw [if_pos (show w = nI 0 from c_93)]
  | succ m ih =>
    intro v h1 hW1 hC1 hT1 hF hv
    obtain ⟨s0, w00, h25⟩ := hT1.1.1
    refine ex_iload (pc := 22) dX6_faces_22 rfl ?_
    refine ex_iconst (pc := 24) (v := (nI 4)) dX6_faces_24 (by decide) ?_
    refine bx_icmp_ge_f (pc := 25) (tgt := 92) dX6_faces_25 (by decide) (nI_ge (by omega) (by omega)) ?_
    refine ex_aload_n (pc := 28) dX6_faces_28 rfl ?_
    refine ex_get (pc := 29) dX6_faces_29 fl_X6_23 hW1 rfl ?_
    refine ex_aload_n (pc := 32) dX6_faces_32 rfl ?_
    refine ex_get (pc := 33) dX6_faces_33 fl_X6_10 hW1 rfl ?_
    refine cx_VL1v (pc := 36) dX6_faces_36 lk_X6_219 h25 rfl (Nat.le_of_ble_eq_true rfl) (Nat.le_of_ble_eq_true rfl) (by omega) (c_R_becomeAs (b := 25) (o := 1) (by omega) (Or.inr (by omega)) (by omega) hC1 hT1.1) (fun h_36 q_36 => ?_)
    obtain ⟨r1, u1⟩ := q_36
    obtain ⟨fq, hfq, hfq2⟩ := r1.1.2.2.2.1
    refine ex_aload_n (pc := 39) dX6_faces_39 rfl ?_
    refine ex_get (pc := 40) dX6_faces_40 fl_X6_23 (rg_0 u1 hW1) rfl ?_
    refine ex_get (pc := 43) dX6_faces_43 fl_X6_90 r1.1.1 rfl ?_
    refine ex_iload_n (pc := 46) dX6_faces_46 rfl ?_
    refine ex_aldn (k := p0) (v := .ref (g.1 + (25 + 4 + p0))) (pc := 47) dX6_faces_47 rfl hfq rfl (by omega) (by decide) (congrArg va_rf (hfq2 p0 (by omega))) ?_
    refine ex_iload (pc := 48) dX6_faces_48 rfl ?_
    refine ex_put (pc := 50) dX6_faces_50 fp_X6_100 (r1.1.2.2.2.2.1 p0 hp0) (Nat.le_of_ble_eq_true rfl) rfl rfl ?_
    rw [ps_2]
    obtain ⟨r2, u2⟩ := (cr_pst r1 (i := p0) (f := 2) (nI v) hp0 (by omega) (r1.2.1.pst (by omega) (show v < 4 by omega) rfl))
    have hW3 := rg_0 (rm_rg u2) (rg_0 u1 hW1)
    refine ex_aload_n (pc := 53) dX6_faces_53 rfl ?_
    refine ex_get (pc := 54) dX6_faces_54 fl_X6_23 hW3 rfl ?_
    refine ex_iload_n (pc := 57) dX6_faces_57 rfl ?_
    refine cx_VL1v (pc := 58) dX6_faces_58 lk_X6_212 r2.1.1 rfl (Nat.le_of_ble_eq_true rfl) (Nat.le_of_ble_eq_true rfl) (by omega) (c_R_passHours r2 (hok.pst (by omega) (show v < 4 by omega) rfl) (by omega) _) (fun h_58 q_58 => ?_)
    obtain ⟨r3, u3⟩ := q_58
    have F3 := (u1.tr (rm_rg u2)).tr (rm_rg u3)
    have hW4 := rg_0 F3 hW1
    refine ex_aload_n (pc := 61) dX6_faces_61 rfl ?_
    refine ex_get (pc := 62) dX6_faces_62 fl_X6_23 hW4 rfl ?_
    refine ex_get (pc := 65) dX6_faces_65 fl_X6_209 r3.1.1 rfl ?_
    refine ex_iload (pc := 68) dX6_faces_68 rfl ?_
    refine ex_icmp_le (pc := 70) (tgt := 86) dX6_faces_70 (by decide) (fun c_70 => ?_) (fun c_70 => ?_)
    · skip
      first | refine sx_inc (pc := 86) dX6_faces_86 rfl rfl (by decide) ?_ | refine sx_iinc (pc := 86) dX6_faces_86 rfl rfl (by decide) ?_
      show Ex _ _ _ _ _ _ [_, _, _, _, _, _, _] _ _ _
      refine ex_goto (pc := 89) (tgt := 22) dX6_faces_89 (by decide) ?_
      have z := ih (v + 1) _ hW4 (rg_now F3 hC1) (ThB.mk r3 hT1 F3) (hF.tr (rg_th F3)) (by omega)
      rw [fc_le (show bsF s n nt (10 + 4 * p0 + 2) N.toNatClampNeg v ≤ _ from c_70)] at z
      exact z
    · skip
      refine ex_aload_n (pc := 73) dX6_faces_73 rfl ?_
      refine ex_get (pc := 74) dX6_faces_74 fl_X6_23 hW4 rfl ?_
      refine ex_get (pc := 77) dX6_faces_77 fl_X6_209 r3.1.1 rfl ?_
      refine sx_istore (pc := 80) dX6_faces_80 rfl (by decide) ?_
      show Ex _ _ _ _ _ _ [_, _, _, _, _, _, _] _ _ _
      refine ex_iload (pc := 82) dX6_faces_82 rfl ?_
      refine sx_istore (pc := 84) dX6_faces_84 rfl (by decide) ?_
      show Ex _ _ _ _ _ _ [_, _, _, _, _, _, _] _ _ _
      first | refine sx_inc (pc := 86) dX6_faces_86 rfl rfl (by decide) ?_ | refine sx_iinc (pc := 86) dX6_faces_86 rfl rfl (by decide) ?_
      show Ex _ _ _ _ _ _ [_, _, _, _, _, _, _] _ _ _
      refine ex_goto (pc := 89) (tgt := 22) dX6_faces_89 (by decide) ?_
      have z := ih (v + 1) _ hW4 (rg_now F3 hC1) (ThB.mk r3 hT1 F3) (hF.tr (rg_th F3)) (by omega)
      rw [fc_gt (show ¬ bsF s n nt (10 + 4 * p0 + 2) N.toNatClampNeg v ≤ _ from c_70)] at z
      exact z
set_option maxHeartbeats 4000000 in
set_option maxRecDepth 100000 in
theorem c_W_faces {g : Gl} {d ks : Nat} {h : AH} {ik wc : Int32} {s : Nat → Int32} {n nt : Nat} (hW : h[0]? = some (wtC g ik wc)) (hC : CR g h 1 s n nt) (hT : ThB g h) (hok : HOk s n) (hd : 5 ≤ d) (p N w : Int32) : Ex g mX6_faces d 0 ks 0 [some (.ref (g.1 + 0)), some (.int p), some (.int N), some (.int w), none, none, none] [] h (qi (fun h' r => (ThB g h' ∧ FrX thX g h h') ∧ r = aFaces s n nt p N w)) := by
  have hR := hC.1
  have hP := hC.2.1
  have hn8 := hP.2.1
  have hN := hR.2.1
  obtain ⟨fp, hfp, hfp2⟩ := hR.2.2.2.1
  refine ex_aload_n (pc := 0) dX6_faces_0 rfl ?_
  refine ex_iload_n (pc := 1) dX6_faces_1 rfl ?_
  refine ex_iload_n (pc := 2) dX6_faces_2 rfl ?_
  refine ex_iload_n (pc := 3) dX6_faces_3 rfl ?_
  refine cx_VL3i (pc := 4) dX6_faces_4 lk_X6_223 hW rfl (Nat.le_of_ble_eq_true rfl) (Nat.le_of_ble_eq_true rfl) (by omega) (c_W_isWeighed hW hC (by omega) _ _ _) (fun h_4 x_4 q_4 => ?_)
  obtain ⟨e_4, f_4⟩ := q_4
  rw [e_4, f_4]
  refine ex_if_ne (pc := 7) (tgt := 13) dX6_faces_7 (by decide) (fun c_7 => ?_) (fun c_7 => ?_)
  · skip
    have b_7 := bT c_7
    obtain ⟨k1, k2, k3⟩ : bw p n = true ∧ bq N 1 60 = true ∧ bw w 2 = true := by simpa [okW] using b_7
    obtain ⟨p0, hp0, rfl⟩ := bw_ex k1
    have i_p : ixI (nI p0) = p0 := iK (by omega)
    refine ex_iconst (pc := 13) (v := (nI 0)) dX6_faces_13 (by decide) ?_
    refine sx_istore (pc := 14) dX6_faces_14 rfl (by decide) ?_
    show Ex _ _ _ _ _ _ [_, _, _, _, _, _, _] _ _ _
    refine ex_iconst (pc := 16) (v := (-1)) dX6_faces_16 (by decide) ?_
    refine sx_istore (pc := 17) dX6_faces_17 rfl (by decide) ?_
    show Ex _ _ _ _ _ _ [_, _, _, _, _, _, _] _ _ _
    refine ex_iconst (pc := 19) (v := (nI 0)) dX6_faces_19 (by decide) ?_
    refine sx_istore (pc := 20) dX6_faces_20 rfl (by decide) ?_
    show Ex _ _ _ _ _ _ [_, _, _, _, _, _, _] _ _ _
    refine (c_W_faces_l hok hp0 hd N w 4 0 h hW hC hT FrX.rf (by omega)).mono (fun h' r q => ?_)
    obtain ⟨x, e, a1, a2⟩ := q
    exact ⟨x, e, a1, by rw [a2]; simp only [aFaces, b_7, i_p, Bool.and_self, Bool.and_true, Bool.true_and, Bool.and_false, Bool.false_and, Bool.or_true, Bool.true_or, Bool.or_false, Bool.false_or, Bool.not_true, Bool.not_false, Bool.false_eq_true, ↓reduceIte]⟩
  · skip
    have b_7 := bF c_7
    refine ex_ldc (pc := 10) dX6_faces_10 cn_X6_73 ?_
    refine ex_ret dX6_faces_12 rfl ?_
    refine qi_mk ⟨⟨hT, FrX.rf⟩, ?_⟩
    simp [aFaces, b_7]
set_option maxHeartbeats 4000000 in
set_option maxRecDepth 100000 in
theorem c_W_becomes_l {g : Gl} {d ks : Nat} {h : AH} {ik wc : Int32} {s : Nat → Int32} {n nt : Nat} (hok : HOk s n) {p0 : Nat} (hp0 : p0 < n) (hd : 5 ≤ d) (N w : Int32) : ∀ (m v : Nat) (h1 : AH), h1[0]? = some (wtC g ik wc) → CR g h1 1 s n nt → ThB g h1 → FrX thX g h h1 → v + m = 6 → Ex g mX6_becomes d 0 ks 22 [some (.ref (g.1 + 0)), some (.int (nI p0)), some (.int N), some (.int w), some (.int (fcF (bsF s n nt (10 + 4 * p0 + 0) N.toNatClampNeg) (v)).1), some (.int (fcF (bsF s n nt (10 + 4 * p0 + 0) N.toNatClampNeg) (v)).2), some (.int (nI (v)))] [] h1 (qi (fun h' r => (ThB g h' ∧ FrX thX g h h') ∧ r = (if w = nI 0 then (fcF (bsF s n nt (10 + 4 * p0 + 0) N.toNatClampNeg) (6)).1 else (fcF (bsF s n nt (10 + 4 * p0 + 0) N.toNatClampNeg) (6)).2))) := by
  have hn8 := hok.1.2.1
  intro m
  induction m with
  | zero =>
    intro v h1 hW1 hC1 hT1 hF hv
    refine ex_iload (pc := 22) dX6_becomes_22 rfl ?_
    refine ex_bipush (pc := 24) (v := (nI 6)) dX6_becomes_24 (by decide) ?_
    refine bx_icmp_ge_t (pc := 26) (tgt := 93) dX6_becomes_26 (by decide) (by rw [show v = 6 by omega]; exact Int32.le_refl _) ?_
    refine ex_iload_n (pc := 93) dX6_becomes_93 rfl ?_
    refine ex_if_ne (pc := 94) (tgt := 102) dX6_becomes_94 (by decide) (fun c_94 => ?_) (fun c_94 => ?_)
    · skip
      refine ex_iload (pc := 102) dX6_becomes_102 rfl ?_
      refine ex_ret dX6_becomes_104 rfl ?_
      obtain rfl : v = 6 := by omega
      refine qi_mk ⟨⟨hT1, hF⟩, ?_⟩
      rw [if_neg (show ¬ w = nI 0 from c_94)]
    · skip
      refine ex_iload (pc := 97) dX6_becomes_97 rfl ?_
      refine ex_goto (pc := 99) (tgt := 104) dX6_becomes_99 (by decide) ?_
      refine ex_ret dX6_becomes_104 rfl ?_
      obtain rfl : v = 6 := by omega
      refine qi_mk ⟨⟨hT1, hF⟩, ?_⟩
      rw [if_pos (show w = nI 0 from c_94)]
  | succ m ih =>
    intro v h1 hW1 hC1 hT1 hF hv
    obtain ⟨s0, w00, h25⟩ := hT1.1.1
    refine ex_iload (pc := 22) dX6_becomes_22 rfl ?_
    refine ex_bipush (pc := 24) (v := (nI 6)) dX6_becomes_24 (by decide) ?_
    refine bx_icmp_ge_f (pc := 26) (tgt := 93) dX6_becomes_26 (by decide) (nI_ge (by omega) (by omega)) ?_
    refine ex_aload_n (pc := 29) dX6_becomes_29 rfl ?_
    refine ex_get (pc := 30) dX6_becomes_30 fl_X6_23 hW1 rfl ?_
    refine ex_aload_n (pc := 33) dX6_becomes_33 rfl ?_
    refine ex_get (pc := 34) dX6_becomes_34 fl_X6_10 hW1 rfl ?_
    refine cx_VL1v (pc := 37) dX6_becomes_37 lk_X6_219 h25 rfl (Nat.le_of_ble_eq_true rfl) (Nat.le_of_ble_eq_true rfl) (by omega) (c_R_becomeAs (b := 25) (o := 1) (by omega) (Or.inr (by omega)) (by omega) hC1 hT1.1) (fun h_37 q_37 => ?_)
    obtain ⟨r1, u1⟩ := q_37
    obtain ⟨fq, hfq, hfq2⟩ := r1.1.2.2.2.1
    refine ex_aload_n (pc := 40) dX6_becomes_40 rfl ?_
    refine ex_get (pc := 41) dX6_becomes_41 fl_X6_23 (rg_0 u1 hW1) rfl ?_
    refine ex_get (pc := 44) dX6_becomes_44 fl_X6_90 r1.1.1 rfl ?_
    refine ex_iload_n (pc := 47) dX6_becomes_47 rfl ?_
    refine ex_aldn (k := p0) (v := .ref (g.1 + (25 + 4 + p0))) (pc := 48) dX6_becomes_48 rfl hfq rfl (by omega) (by decide) (congrArg va_rf (hfq2 p0 (by omega))) ?_
    refine ex_iload (pc := 49) dX6_becomes_49 rfl ?_
    refine ex_put (pc := 51) dX6_becomes_51 fp_X6_94 (r1.1.2.2.2.2.1 p0 hp0) (Nat.le_of_ble_eq_true rfl) rfl rfl ?_
    rw [ps_0]
    obtain ⟨r2, u2⟩ := (cr_pst r1 (i := p0) (f := 0) (nI v) hp0 (by omega) (r1.2.1.pst (by omega) (show v < 6 by omega) rfl))
    have hW3 := rg_0 (rm_rg u2) (rg_0 u1 hW1)
    refine ex_aload_n (pc := 54) dX6_becomes_54 rfl ?_
    refine ex_get (pc := 55) dX6_becomes_55 fl_X6_23 hW3 rfl ?_
    refine ex_iload_n (pc := 58) dX6_becomes_58 rfl ?_
    refine cx_VL1v (pc := 59) dX6_becomes_59 lk_X6_212 r2.1.1 rfl (Nat.le_of_ble_eq_true rfl) (Nat.le_of_ble_eq_true rfl) (by omega) (c_R_passHours r2 (hok.pst (by omega) (show v < 6 by omega) rfl) (by omega) _) (fun h_59 q_59 => ?_)
    obtain ⟨r3, u3⟩ := q_59
    have F3 := (u1.tr (rm_rg u2)).tr (rm_rg u3)
    have hW4 := rg_0 F3 hW1
    refine ex_aload_n (pc := 62) dX6_becomes_62 rfl ?_
    refine ex_get (pc := 63) dX6_becomes_63 fl_X6_23 hW4 rfl ?_
    refine ex_get (pc := 66) dX6_becomes_66 fl_X6_209 r3.1.1 rfl ?_
    refine ex_iload (pc := 69) dX6_becomes_69 rfl ?_
    refine ex_icmp_le (pc := 71) (tgt := 87) dX6_becomes_71 (by decide) (fun c_71 => ?_) (fun c_71 => ?_)
    · skip
      first | refine sx_inc (pc := 87) dX6_becomes_87 rfl rfl (by decide) ?_ | refine sx_iinc (pc := 87) dX6_becomes_87 rfl rfl (by decide) ?_
      show Ex _ _ _ _ _ _ [_, _, _, _, _, _, _] _ _ _
      refine ex_goto (pc := 90) (tgt := 22) dX6_becomes_90 (by decide) ?_
      have z := ih (v + 1) _ hW4 (rg_now F3 hC1) (ThB.mk r3 hT1 F3) (hF.tr (rg_th F3)) (by omega)
      rw [fc_le (show bsF s n nt (10 + 4 * p0 + 0) N.toNatClampNeg v ≤ _ from c_71)] at z
      exact z
    · skip
      refine ex_aload_n (pc := 74) dX6_becomes_74 rfl ?_
      refine ex_get (pc := 75) dX6_becomes_75 fl_X6_23 hW4 rfl ?_
      refine ex_get (pc := 78) dX6_becomes_78 fl_X6_209 r3.1.1 rfl ?_
      refine sx_istore (pc := 81) dX6_becomes_81 rfl (by decide) ?_
      show Ex _ _ _ _ _ _ [_, _, _, _, _, _, _] _ _ _
      refine ex_iload (pc := 83) dX6_becomes_83 rfl ?_
      refine sx_istore (pc := 85) dX6_becomes_85 rfl (by decide) ?_
      show Ex _ _ _ _ _ _ [_, _, _, _, _, _, _] _ _ _
      first | refine sx_inc (pc := 87) dX6_becomes_87 rfl rfl (by decide) ?_ | refine sx_iinc (pc := 87) dX6_becomes_87 rfl rfl (by decide) ?_
      show Ex _ _ _ _ _ _ [_, _, _, _, _, _, _] _ _ _
      refine ex_goto (pc := 90) (tgt := 22) dX6_becomes_90 (by decide) ?_
      have z := ih (v + 1) _ hW4 (rg_now F3 hC1) (ThB.mk r3 hT1 F3) (hF.tr (rg_th F3)) (by omega)
      rw [fc_gt (show ¬ bsF s n nt (10 + 4 * p0 + 0) N.toNatClampNeg v ≤ _ from c_71)] at z
      exact z
set_option maxHeartbeats 4000000 in
set_option maxRecDepth 100000 in
theorem c_W_becomes {g : Gl} {d ks : Nat} {h : AH} {ik wc : Int32} {s : Nat → Int32} {n nt : Nat} (hW : h[0]? = some (wtC g ik wc)) (hC : CR g h 1 s n nt) (hT : ThB g h) (hok : HOk s n) (hd : 5 ≤ d) (p N w : Int32) : Ex g mX6_becomes d 0 ks 0 [some (.ref (g.1 + 0)), some (.int p), some (.int N), some (.int w), none, none, none] [] h (qi (fun h' r => (ThB g h' ∧ FrX thX g h h') ∧ r = aBecomes s n nt p N w)) := by
  have hR := hC.1
  have hP := hC.2.1
  have hn8 := hP.2.1
  have hN := hR.2.1
  obtain ⟨fp, hfp, hfp2⟩ := hR.2.2.2.1
  refine ex_aload_n (pc := 0) dX6_becomes_0 rfl ?_
  refine ex_iload_n (pc := 1) dX6_becomes_1 rfl ?_
  refine ex_iload_n (pc := 2) dX6_becomes_2 rfl ?_
  refine ex_iload_n (pc := 3) dX6_becomes_3 rfl ?_
  refine cx_VL3i (pc := 4) dX6_becomes_4 lk_X6_223 hW rfl (Nat.le_of_ble_eq_true rfl) (Nat.le_of_ble_eq_true rfl) (by omega) (c_W_isWeighed hW hC (by omega) _ _ _) (fun h_4 x_4 q_4 => ?_)
  obtain ⟨e_4, f_4⟩ := q_4
  rw [e_4, f_4]
  refine ex_if_ne (pc := 7) (tgt := 13) dX6_becomes_7 (by decide) (fun c_7 => ?_) (fun c_7 => ?_)
  · skip
    have b_7 := bT c_7
    obtain ⟨k1, k2, k3⟩ : bw p n = true ∧ bq N 1 60 = true ∧ bw w 2 = true := by simpa [okW] using b_7
    obtain ⟨p0, hp0, rfl⟩ := bw_ex k1
    have i_p : ixI (nI p0) = p0 := iK (by omega)
    refine ex_iconst (pc := 13) (v := (nI 0)) dX6_becomes_13 (by decide) ?_
    refine sx_istore (pc := 14) dX6_becomes_14 rfl (by decide) ?_
    show Ex _ _ _ _ _ _ [_, _, _, _, _, _, _] _ _ _
    refine ex_iconst (pc := 16) (v := (-1)) dX6_becomes_16 (by decide) ?_
    refine sx_istore (pc := 17) dX6_becomes_17 rfl (by decide) ?_
    show Ex _ _ _ _ _ _ [_, _, _, _, _, _, _] _ _ _
    refine ex_iconst (pc := 19) (v := (nI 0)) dX6_becomes_19 (by decide) ?_
    refine sx_istore (pc := 20) dX6_becomes_20 rfl (by decide) ?_
    show Ex _ _ _ _ _ _ [_, _, _, _, _, _, _] _ _ _
    refine (c_W_becomes_l hok hp0 hd N w 6 0 h hW hC hT FrX.rf (by omega)).mono (fun h' r q => ?_)
    obtain ⟨x, e, a1, a2⟩ := q
    exact ⟨x, e, a1, by rw [a2]; simp only [aBecomes, b_7, i_p, Bool.and_self, Bool.and_true, Bool.true_and, Bool.and_false, Bool.false_and, Bool.or_true, Bool.true_or, Bool.or_false, Bool.false_or, Bool.not_true, Bool.not_false, Bool.false_eq_true, ↓reduceIte]⟩
  · skip
    have b_7 := bF c_7
    refine ex_ldc (pc := 10) dX6_becomes_10 cn_X6_73 ?_
    refine ex_ret dX6_becomes_12 rfl ?_
    refine qi_mk ⟨⟨hT, FrX.rf⟩, ?_⟩
    simp [aBecomes, b_7]
set_option maxHeartbeats 4000000 in
set_option maxRecDepth 100000 in
theorem c_M_bestOf_l {g : Gl} {d ks : Nat} {h : AH} {z s : Nat → Int32} {n nt : Nat} {A L : Nat} (hA : 10 ≤ A) (hA2 : A < 42) (hL : L < 10) (hv : ∀ v, v ≤ L → HOk (upd s A (nI v)) n) (hd : 9 ≤ d) (N w : Int32) : ∀ (m v : Nat) (l : Option Value) (h1 : AH), MR g h1 z s n nt → MT g h1 → FrX mtX g h h1 → ∀ (ff : Nat → Int32), h1[88]? = some (ia g 90 ff) → (∀ j, j < 90 → ff j = s j) → v + m = L + 1 → Ex g mX7_bestOf d 0 ks 13 [some (.ref (g.1 + 75)), some (.int (nI A)), some (.int (nI L)), some (.int N), some (.int w), some (.int (fcF (bsF s n nt A N.toNatClampNeg) (v)).1), some (.int (fcF (bsF s n nt A N.toNatClampNeg) (v)).2), some (.int (nI (v))), l] [] h1 (qi (fun h' r => (MR g h' z s n nt ∧ MT g h' ∧ FrX mtX g h h') ∧ r = (if w = nI 0 then (fcF (bsF s n nt A N.toNatClampNeg) (L + 1)).1 else (fcF (bsF s n nt A N.toNatClampNeg) (L + 1)).2))) := by
  intro m
  induction m with
  | zero =>
    intro v l h1 hR1 hT1 hF ff h88 hff hvm
    refine ex_iload (pc := 13) dX7_bestOf_13 rfl ?_
    refine ex_iload_n (pc := 15) dX7_bestOf_15 rfl ?_
    refine bx_icmp_gt_t (pc := 16) (tgt := 82) dX7_bestOf_16 (by decide) (nI_lt (by omega) (by omega)) ?_
    refine ex_iload (pc := 82) dX7_bestOf_82 rfl ?_
    refine ex_if_ne (pc := 84) (tgt := 92) dX7_bestOf_84 (by decide) (fun c_84 => ?_) (fun c_84 => ?_)
    · skip
      refine ex_iload (pc := 92) dX7_bestOf_92 rfl ?_
      refine ex_ret dX7_bestOf_94 rfl ?_
      obtain rfl : v = L + 1 := by omega
      refine qi_mk ⟨⟨hR1, hT1, hF⟩, ?_⟩
      rw [if_neg (show ¬ w = nI 0 from c_84)]
    · skip
      refine ex_iload (pc := 87) dX7_bestOf_87 rfl ?_
      refine ex_goto (pc := 89) (tgt := 94) dX7_bestOf_89 (by decide) ?_
      refine ex_ret dX7_bestOf_94 rfl ?_
      obtain rfl : v = L + 1 := by omega
      refine qi_mk ⟨⟨hR1, hT1, hF⟩, ?_⟩
      rw [if_pos (show w = nI 0 from c_84)]
  | succ m ih =>
    intro v l h1 hR1 hT1 hF ff h88 hff hvm
    refine ex_iload (pc := 13) dX7_bestOf_13 rfl ?_
    refine ex_iload_n (pc := 15) dX7_bestOf_15 rfl ?_
    refine bx_icmp_gt_f (pc := 16) (tgt := 82) dX7_bestOf_16 (by decide) (nI_nlt (by omega) (by omega)) ?_
    refine ex_aload_n (pc := 19) dX7_bestOf_19 rfl ?_
    refine ex_get (pc := 20) dX7_bestOf_20 fl_X7_7 hR1.1.1 rfl ?_
    refine ex_iload_n (pc := 23) dX7_bestOf_23 rfl ?_
    refine ex_iload (pc := 24) dX7_bestOf_24 rfl ?_
    refine ex_istn (k := A) (pc := 26) dX7_bestOf_26 hR1.1.2 rfl (by omega) (by decide) ?_
    obtain ⟨m1, m2⟩ := mr_st (s' := upd s A (nI v)) hR1 (lowE.up (by omega) (by omega)) (hv v (by omega)).1
    refine ex_aload_n (pc := 27) dX7_bestOf_27 rfl ?_
    refine ex_iload_n (pc := 28) dX7_bestOf_28 rfl ?_
    refine cx_VL1v (pc := 29) dX7_bestOf_29 lk_X7_240 m1.1.1 rfl (Nat.le_of_ble_eq_true rfl) (Nat.le_of_ble_eq_true rfl) (by omega) (c_M_goesOnMany m1 (hv v (by omega)) (by omega) _) (fun h_29 q_29 => ?_)
    obtain ⟨r2, u2⟩ := q_29
    refine ex_aload_n (pc := 32) dX7_bestOf_32 rfl ?_
    refine ex_get (pc := 33) dX7_bestOf_33 fl_X7_7 r2.1.1 rfl ?_
    refine ex_iconst (pc := 36) (v := (nI 5)) dX7_bestOf_36 (by decide) ?_
    refine ex_ildn (k := 5) (pc := 37) dX7_bestOf_37 r2.1.2 rfl (by decide) (by decide) ?_
    refine sx_istore (pc := 38) dX7_bestOf_38 rfl (by decide) ?_
    show Ex _ _ _ _ _ _ [_, _, _, _, _, _, _, _, _] _ _ _
    refine ex_aload_n (pc := 40) dX7_bestOf_40 rfl ?_
    refine cx_VL0v (pc := 41) dX7_bestOf_41 lk_X7_256 r2.1.1 rfl (Nat.le_of_ble_eq_true rfl) (Nat.le_of_ble_eq_true rfl) (by omega) (c_M_laysBack r2.1 (u2.at (by unfold mX; omega) (nscr (by omega)) (gs_ne (by decide) h88))) (fun h_41 q_41 => ?_)
    obtain ⟨r3, u3, e75⟩ := q_41
    refine ex_iload (pc := 44) dX7_bestOf_44 rfl ?_
    refine ex_iload (pc := 46) dX7_bestOf_46 rfl ?_
    refine ex_icmp_le (pc := 48) (tgt := 56) dX7_bestOf_48 (by decide) (fun c_48 => ?_) (fun c_48 => ?_)
    · skip
      refine ex_iload (pc := 56) dX7_bestOf_56 rfl ?_
      refine sx_istore (pc := 58) dX7_bestOf_58 rfl (by decide) ?_
      show Ex _ _ _ _ _ _ [_, _, _, _, _, _, _, _, _] _ _ _
      refine ex_iload (pc := 60) dX7_bestOf_60 rfl ?_
      refine ex_iload (pc := 62) dX7_bestOf_62 rfl ?_
      refine ex_icmp_le (pc := 64) (tgt := 72) dX7_bestOf_64 (by decide) (fun c_64 => ?_) (fun c_64 => ?_)
      · skip
        refine ex_iload (pc := 72) dX7_bestOf_72 rfl ?_
        refine sx_istore (pc := 74) dX7_bestOf_74 rfl (by decide) ?_
        show Ex _ _ _ _ _ _ [_, _, _, _, _, _, _, _, _] _ _ _
        first | refine sx_inc (pc := 76) dX7_bestOf_76 rfl rfl (by decide) ?_ | refine sx_iinc (pc := 76) dX7_bestOf_76 rfl rfl (by decide) ?_
        show Ex _ _ _ _ _ _ [_, _, _, _, _, _, _, _, _] _ _ _
        refine ex_goto (pc := 79) (tgt := 13) dX7_bestOf_79 (by decide) ?_
        obtain ⟨o1, o2, o3⟩ := bk_back hR1 hT1 (h1 := h1) FrX.rf h88 hff (m2.tr u2) ((ms_75 m1.1 r2.1).trans (List.getElem?_set_ne (by decide))) ((lowD.up (by omega) (by omega)).tr (hrs_ok (hv v (by omega)) _).2) r3 u3 e75
        have z := ih (v + 1) (some (.int (hrsS (upd s A (nI v)) nt n N.toNatClampNeg 5))) _ o1 o2 (hF.tr o3) ff (u3.at (by unfold mX; omega) (nscr (by omega)) (u2.at (by unfold mX; omega) (nscr (by omega)) (gs_ne (by decide) h88))) hff (by omega)
        rw [fc_le (show bsF s n nt A N.toNatClampNeg v ≤ _ from c_48)] at z
        exact z
      · skip
        refine ex_iload (pc := 67) dX7_bestOf_67 rfl ?_
        refine ex_goto (pc := 69) (tgt := 74) dX7_bestOf_69 (by decide) ?_
        refine sx_istore (pc := 74) dX7_bestOf_74 rfl (by decide) ?_
        show Ex _ _ _ _ _ _ [_, _, _, _, _, _, _, _, _] _ _ _
        first | refine sx_inc (pc := 76) dX7_bestOf_76 rfl rfl (by decide) ?_ | refine sx_iinc (pc := 76) dX7_bestOf_76 rfl rfl (by decide) ?_
        show Ex _ _ _ _ _ _ [_, _, _, _, _, _, _, _, _] _ _ _
        refine ex_goto (pc := 79) (tgt := 13) dX7_bestOf_79 (by decide) ?_
        exact absurd c_48 c_64
    · skip
      refine ex_iload (pc := 51) dX7_bestOf_51 rfl ?_
      refine ex_goto (pc := 53) (tgt := 58) dX7_bestOf_53 (by decide) ?_
      refine sx_istore (pc := 58) dX7_bestOf_58 rfl (by decide) ?_
      show Ex _ _ _ _ _ _ [_, _, _, _, _, _, _, _, _] _ _ _
      refine ex_iload (pc := 60) dX7_bestOf_60 rfl ?_
      refine ex_iload (pc := 62) dX7_bestOf_62 rfl ?_
      refine ex_icmp_le (pc := 64) (tgt := 72) dX7_bestOf_64 (by decide) (fun c_64 => ?_) (fun c_64 => ?_)
      · skip
        refine ex_iload (pc := 72) dX7_bestOf_72 rfl ?_
        refine sx_istore (pc := 74) dX7_bestOf_74 rfl (by decide) ?_
        show Ex _ _ _ _ _ _ [_, _, _, _, _, _, _, _, _] _ _ _
        first | refine sx_inc (pc := 76) dX7_bestOf_76 rfl rfl (by decide) ?_ | refine sx_iinc (pc := 76) dX7_bestOf_76 rfl rfl (by decide) ?_
        show Ex _ _ _ _ _ _ [_, _, _, _, _, _, _, _, _] _ _ _
        refine ex_goto (pc := 79) (tgt := 13) dX7_bestOf_79 (by decide) ?_
        exact absurd c_64 c_48
      · skip
        refine ex_iload (pc := 67) dX7_bestOf_67 rfl ?_
        refine ex_goto (pc := 69) (tgt := 74) dX7_bestOf_69 (by decide) ?_
        refine sx_istore (pc := 74) dX7_bestOf_74 rfl (by decide) ?_
        show Ex _ _ _ _ _ _ [_, _, _, _, _, _, _, _, _] _ _ _
        first | refine sx_inc (pc := 76) dX7_bestOf_76 rfl rfl (by decide) ?_ | refine sx_iinc (pc := 76) dX7_bestOf_76 rfl rfl (by decide) ?_
        show Ex _ _ _ _ _ _ [_, _, _, _, _, _, _, _, _] _ _ _
        refine ex_goto (pc := 79) (tgt := 13) dX7_bestOf_79 (by decide) ?_
        obtain ⟨o1, o2, o3⟩ := bk_back hR1 hT1 (h1 := h1) FrX.rf h88 hff (m2.tr u2) ((ms_75 m1.1 r2.1).trans (List.getElem?_set_ne (by decide))) ((lowD.up (by omega) (by omega)).tr (hrs_ok (hv v (by omega)) _).2) r3 u3 e75
        have z := ih (v + 1) (some (.int (hrsS (upd s A (nI v)) nt n N.toNatClampNeg 5))) _ o1 o2 (hF.tr o3) ff (u3.at (by unfold mX; omega) (nscr (by omega)) (u2.at (by unfold mX; omega) (nscr (by omega)) (gs_ne (by decide) h88))) hff (by omega)
        rw [fc_gt (show ¬ bsF s n nt A N.toNatClampNeg v ≤ _ from c_48)] at z
        exact z
theorem mt_c88 {g : Gl} {h h' : AH} {f : Nat → Int32} (a : MT g h) (q : FrX c88 g h h') (e : h'[88]? = some (ia g 90 f)) : MT g h' := by
  obtain ⟨⟨a1, b1⟩, ⟨a2, b2⟩, -, ⟨a4, b4⟩, a5, b5⟩ := a
  exact ⟨⟨a1, q.at (by unfold c88; omega) (nscr (by omega)) b1⟩, ⟨a2, q.at (by unfold c88; omega) (nscr (by omega)) b2⟩, ⟨f, e⟩, ⟨a4, q.at (by unfold c88; omega) (by unfold scr; omega) b4⟩, a5, q.at (by unfold c88; omega) (by unfold scr; omega) b5⟩
set_option maxHeartbeats 4000000 in
set_option maxRecDepth 100000 in
theorem c_M_bestOf {g : Gl} {d ks : Nat} {h : AH} {z s : Nat → Int32} {n nt : Nat} (hR : MR g h z s n nt) (hT : MT g h) {A L : Nat} (hA : 10 ≤ A) (hA2 : A < 42) (hL : L < 10) (hv : ∀ v, v ≤ L → HOk (upd s A (nI v)) n) (hd : 9 ≤ d) (N w : Int32) : Ex g mX7_bestOf d 0 ks 0 [some (.ref (g.1 + 75)), some (.int (nI A)), some (.int (nI L)), some (.int N), some (.int w), none, none, none, none] [] h (qi (fun h' r => (MR g h' z s n nt ∧ MT g h' ∧ FrX mtX g h h') ∧ r = (if w = nI 0 then (fcF (bsF s n nt A N.toNatClampNeg) (L + 1)).1 else (fcF (bsF s n nt A N.toNatClampNeg) (L + 1)).2))) := by
  obtain ⟨f0, h88⟩ := hT.2.2.1
  refine ex_aload_n (pc := 0) dX7_bestOf_0 rfl ?_
  refine cx_VL0v (pc := 1) dX7_bestOf_1 lk_X7_253 hR.1.1 rfl (Nat.le_of_ble_eq_true rfl) (Nat.le_of_ble_eq_true rfl) (by omega) (c_M_laysBy hR h88) (fun h_1 q_1 => ?_)
  obtain ⟨r1, u1, ff, h88b, hff⟩ := q_1
  refine ex_iconst (pc := 4) (v := (nI 0)) dX7_bestOf_4 (by decide) ?_
  refine sx_istore (pc := 5) dX7_bestOf_5 rfl (by decide) ?_
  show Ex _ _ _ _ _ _ [_, _, _, _, _, _, _, _, _] _ _ _
  refine ex_iconst (pc := 7) (v := (-1)) dX7_bestOf_7 (by decide) ?_
  refine sx_istore (pc := 8) dX7_bestOf_8 rfl (by decide) ?_
  show Ex _ _ _ _ _ _ [_, _, _, _, _, _, _, _, _] _ _ _
  refine ex_iconst (pc := 10) (v := (nI 0)) dX7_bestOf_10 (by decide) ?_
  refine sx_istore (pc := 11) dX7_bestOf_11 rfl (by decide) ?_
  show Ex _ _ _ _ _ _ [_, _, _, _, _, _, _, _, _] _ _ _
  exact c_M_bestOf_l hA hA2 hL hv hd N w (L + 1) 0 none h_1 r1 (mt_c88 hT u1 h88b) (c88_mt u1) ff h88b hff (by omega)
set_option maxHeartbeats 4000000 in
set_option maxRecDepth 100000 in
theorem c_M_faces {g : Gl} {d ks : Nat} {h : AH} {z s : Nat → Int32} {n nt : Nat} (hR : MR g h z s n nt) (hT : MT g h) (hok : HOk s n) (hd : 10 ≤ d) (p N w : Int32) : Ex g mX7_faces d 0 ks 0 [some (.ref (g.1 + 75)), some (.int p), some (.int N), some (.int w)] [] h (qi (fun h' r => (MR g h' z s n nt ∧ MT g h' ∧ FrX mtX g h h') ∧ r = aFaces s n nt p N w)) := by
  have hM := hR.1
  have hP := hR.2.1
  have hn8 := hP.2.1
  have hN := hP.1
  refine ex_aload_n (pc := 0) dX7_faces_0 rfl ?_
  refine ex_iload_n (pc := 1) dX7_faces_1 rfl ?_
  refine cx_VL1i (pc := 2) dX7_faces_2 lk_X7_171 hM.1 rfl (Nat.le_of_ble_eq_true rfl) (Nat.le_of_ble_eq_true rfl) (by omega) (c_M_isp hM hN hn8 (by omega) _) (fun h_2 x_2 q_2 => ?_)
  obtain ⟨e_2, f_2⟩ := q_2
  rw [e_2, f_2]
  refine ex_if_eq (pc := 5) (tgt := 34) dX7_faces_5 (by decide) (fun c_5 => ?_) (fun c_5 => ?_)
  · skip
    have b_5 := bF c_5
    refine ex_ldc (pc := 34) dX7_faces_34 cn_X7_161 ?_
    refine ex_ret dX7_faces_36 rfl ?_
    refine qi_mk ⟨⟨hR, hT, FrX.rf⟩, ?_⟩
    have k0 : okW n p N w = false := by simp only [okW, b_5, Bool.and_self, Bool.and_true, Bool.true_and, Bool.and_false, Bool.false_and, Bool.or_true, Bool.true_or, Bool.or_false, Bool.false_or, Bool.not_true, Bool.not_false, Bool.false_eq_true, ↓reduceIte]
    simp only [aFaces, k0, Bool.and_self, Bool.and_true, Bool.true_and, Bool.and_false, Bool.false_and, Bool.or_true, Bool.true_or, Bool.or_false, Bool.false_or, Bool.not_true, Bool.not_false, Bool.false_eq_true, ↓reduceIte]
  · skip
    have b_5 := bT c_5
    refine ex_iload_n (pc := 8) dX7_faces_8 rfl ?_
    refine ex_iload_n (pc := 9) dX7_faces_9 rfl ?_
    refine cx_SL2i (pc := 10) dX7_faces_10 lk_X7_261 rfl (Nat.le_of_ble_eq_true rfl) (Nat.le_of_ble_eq_true rfl) (by omega) (c_M_isAsked (by omega) _ _) (fun h_10 x_10 q_10 => ?_)
    obtain ⟨e_10, f_10⟩ := q_10
    rw [e_10, f_10]
    refine ex_if_eq (pc := 13) (tgt := 34) dX7_faces_13 (by decide) (fun c_13 => ?_) (fun c_13 => ?_)
    · skip
      have b_13 := bF c_13
      refine ex_ldc (pc := 34) dX7_faces_34 cn_X7_161 ?_
      refine ex_ret dX7_faces_36 rfl ?_
      refine qi_mk ⟨⟨hR, hT, FrX.rf⟩, ?_⟩
      have k0 : okW n p N w = false := by simp only [okW, b_5, b_13, Bool.and_self, Bool.and_true, Bool.true_and, Bool.and_false, Bool.false_and, Bool.or_true, Bool.true_or, Bool.or_false, Bool.false_or, Bool.not_true, Bool.not_false, Bool.false_eq_true, ↓reduceIte]
      simp only [aFaces, k0, Bool.and_self, Bool.and_true, Bool.true_and, Bool.and_false, Bool.false_and, Bool.or_true, Bool.true_or, Bool.or_false, Bool.false_or, Bool.not_true, Bool.not_false, Bool.false_eq_true, ↓reduceIte]
    · skip
      have b_13 := bT c_13
      obtain ⟨p0, hp0, rfl⟩ := bw_ex b_5
      have i_p : ixI (nI p0) = p0 := iK (by omega)
      refine ex_aload_n (pc := 16) dX7_faces_16 rfl ?_
      refine ex_bipush (pc := 17) (v := (nI 10)) dX7_faces_17 (by decide) ?_
      refine ex_iconst (pc := 19) (v := (nI 4)) dX7_faces_19 (by decide) ?_
      refine ex_iload_n (pc := 20) dX7_faces_20 rfl ?_
      refine ex_imul (pc := 21) dX7_faces_21 ?_
      refine ex_iadd (pc := 22) dX7_faces_22 ?_
      refine ex_iconst (pc := 23) (v := (nI 2)) dX7_faces_23 (by decide) ?_
      refine ex_iadd (pc := 24) dX7_faces_24 ?_
      rw [nI_mul, nI_add, nI_add]
      refine ex_iconst (pc := 25) (v := (nI 3)) dX7_faces_25 (by decide) ?_
      refine ex_iload_n (pc := 26) dX7_faces_26 rfl ?_
      refine ex_iload_n (pc := 27) dX7_faces_27 rfl ?_
      refine cx_VL4i (pc := 28) dX7_faces_28 lk_X7_264 hM.1 rfl (Nat.le_of_ble_eq_true rfl) (Nat.le_of_ble_eq_true rfl) (by omega) (c_M_bestOf hR hT (A := (10 + 4 * p0 + 2)) (L := 3) (by omega) (by omega) (by omega) (fun v hv => hok.pst (f := 2) (i := p0) (by omega) (show v < 4 by omega) rfl) (by omega) _ _) (fun h_28 x_28 q_28 => ?_)
      obtain ⟨a1, a2⟩ := q_28
      rw [a2]
      refine ex_goto (pc := 31) (tgt := 36) dX7_faces_31 (by decide) ?_
      refine ex_ret dX7_faces_36 rfl ?_
      refine qi_mk ⟨a1, ?_⟩
      have k0 : okW n (nI p0) N w = true := by simp only [okW, b_5, b_13, Bool.and_self, Bool.and_true, Bool.true_and, Bool.and_false, Bool.false_and, Bool.or_true, Bool.true_or, Bool.or_false, Bool.false_or, Bool.not_true, Bool.not_false, Bool.false_eq_true, ↓reduceIte]
      simp only [aFaces, k0, i_p, Bool.and_self, Bool.and_true, Bool.true_and, Bool.and_false, Bool.false_and, Bool.or_true, Bool.true_or, Bool.or_false, Bool.false_or, Bool.not_true, Bool.not_false, Bool.false_eq_true, ↓reduceIte]
      try rfl
set_option maxHeartbeats 4000000 in
set_option maxRecDepth 100000 in
theorem c_M_becomes {g : Gl} {d ks : Nat} {h : AH} {z s : Nat → Int32} {n nt : Nat} (hR : MR g h z s n nt) (hT : MT g h) (hok : HOk s n) (hd : 10 ≤ d) (p N w : Int32) : Ex g mX7_becomes d 0 ks 0 [some (.ref (g.1 + 75)), some (.int p), some (.int N), some (.int w)] [] h (qi (fun h' r => (MR g h' z s n nt ∧ MT g h' ∧ FrX mtX g h h') ∧ r = aBecomes s n nt p N w)) := by
  have hM := hR.1
  have hP := hR.2.1
  have hn8 := hP.2.1
  have hN := hP.1
  refine ex_aload_n (pc := 0) dX7_becomes_0 rfl ?_
  refine ex_iload_n (pc := 1) dX7_becomes_1 rfl ?_
  refine cx_VL1i (pc := 2) dX7_becomes_2 lk_X7_171 hM.1 rfl (Nat.le_of_ble_eq_true rfl) (Nat.le_of_ble_eq_true rfl) (by omega) (c_M_isp hM hN hn8 (by omega) _) (fun h_2 x_2 q_2 => ?_)
  obtain ⟨e_2, f_2⟩ := q_2
  rw [e_2, f_2]
  refine ex_if_eq (pc := 5) (tgt := 32) dX7_becomes_5 (by decide) (fun c_5 => ?_) (fun c_5 => ?_)
  · skip
    have b_5 := bF c_5
    refine ex_ldc (pc := 32) dX7_becomes_32 cn_X7_161 ?_
    refine ex_ret dX7_becomes_34 rfl ?_
    refine qi_mk ⟨⟨hR, hT, FrX.rf⟩, ?_⟩
    have k0 : okW n p N w = false := by simp only [okW, b_5, Bool.and_self, Bool.and_true, Bool.true_and, Bool.and_false, Bool.false_and, Bool.or_true, Bool.true_or, Bool.or_false, Bool.false_or, Bool.not_true, Bool.not_false, Bool.false_eq_true, ↓reduceIte]
    simp only [aBecomes, k0, Bool.and_self, Bool.and_true, Bool.true_and, Bool.and_false, Bool.false_and, Bool.or_true, Bool.true_or, Bool.or_false, Bool.false_or, Bool.not_true, Bool.not_false, Bool.false_eq_true, ↓reduceIte]
  · skip
    have b_5 := bT c_5
    refine ex_iload_n (pc := 8) dX7_becomes_8 rfl ?_
    refine ex_iload_n (pc := 9) dX7_becomes_9 rfl ?_
    refine cx_SL2i (pc := 10) dX7_becomes_10 lk_X7_261 rfl (Nat.le_of_ble_eq_true rfl) (Nat.le_of_ble_eq_true rfl) (by omega) (c_M_isAsked (by omega) _ _) (fun h_10 x_10 q_10 => ?_)
    obtain ⟨e_10, f_10⟩ := q_10
    rw [e_10, f_10]
    refine ex_if_eq (pc := 13) (tgt := 32) dX7_becomes_13 (by decide) (fun c_13 => ?_) (fun c_13 => ?_)
    · skip
      have b_13 := bF c_13
      refine ex_ldc (pc := 32) dX7_becomes_32 cn_X7_161 ?_
      refine ex_ret dX7_becomes_34 rfl ?_
      refine qi_mk ⟨⟨hR, hT, FrX.rf⟩, ?_⟩
      have k0 : okW n p N w = false := by simp only [okW, b_5, b_13, Bool.and_self, Bool.and_true, Bool.true_and, Bool.and_false, Bool.false_and, Bool.or_true, Bool.true_or, Bool.or_false, Bool.false_or, Bool.not_true, Bool.not_false, Bool.false_eq_true, ↓reduceIte]
      simp only [aBecomes, k0, Bool.and_self, Bool.and_true, Bool.true_and, Bool.and_false, Bool.false_and, Bool.or_true, Bool.true_or, Bool.or_false, Bool.false_or, Bool.not_true, Bool.not_false, Bool.false_eq_true, ↓reduceIte]
    · skip
      have b_13 := bT c_13
      obtain ⟨p0, hp0, rfl⟩ := bw_ex b_5
      have i_p : ixI (nI p0) = p0 := iK (by omega)
      refine ex_aload_n (pc := 16) dX7_becomes_16 rfl ?_
      refine ex_bipush (pc := 17) (v := (nI 10)) dX7_becomes_17 (by decide) ?_
      refine ex_iconst (pc := 19) (v := (nI 4)) dX7_becomes_19 (by decide) ?_
      refine ex_iload_n (pc := 20) dX7_becomes_20 rfl ?_
      refine ex_imul (pc := 21) dX7_becomes_21 ?_
      refine ex_iadd (pc := 22) dX7_becomes_22 ?_
      rw [nI_mul, nI_add]
      refine ex_iconst (pc := 23) (v := (nI 5)) dX7_becomes_23 (by decide) ?_
      refine ex_iload_n (pc := 24) dX7_becomes_24 rfl ?_
      refine ex_iload_n (pc := 25) dX7_becomes_25 rfl ?_
      refine cx_VL4i (pc := 26) dX7_becomes_26 lk_X7_264 hM.1 rfl (Nat.le_of_ble_eq_true rfl) (Nat.le_of_ble_eq_true rfl) (by omega) (c_M_bestOf hR hT (A := 10 + 4 * p0) (L := 5) (by omega) (by omega) (by omega) (fun v hv => hok.pst (f := 0) (i := p0) (by omega) (show v < 6 by omega) rfl) (by omega) _ _) (fun h_26 x_26 q_26 => ?_)
      obtain ⟨a1, a2⟩ := q_26
      rw [a2]
      refine ex_goto (pc := 29) (tgt := 34) dX7_becomes_29 (by decide) ?_
      refine ex_ret dX7_becomes_34 rfl ?_
      refine qi_mk ⟨a1, ?_⟩
      have k0 : okW n (nI p0) N w = true := by simp only [okW, b_5, b_13, Bool.and_self, Bool.and_true, Bool.true_and, Bool.and_false, Bool.false_and, Bool.or_true, Bool.true_or, Bool.or_false, Bool.false_or, Bool.not_true, Bool.not_false, Bool.false_eq_true, ↓reduceIte]
      simp only [aBecomes, k0, i_p, Bool.and_self, Bool.and_true, Bool.true_and, Bool.and_false, Bool.false_and, Bool.or_true, Bool.true_or, Bool.or_false, Bool.false_or, Bool.not_true, Bool.not_false, Bool.false_eq_true, ↓reduceIte]
      try rfl

/-! public calls: a post comes, turns, is set, moves -/
abbrev ixI (v : Int32) : Nat := v.toNatClampNeg
def okPost (s : Nat → Int32) (n : Nat) (kd ce si : Int32) : Bool := bw kd 6 && (bw ce 48 && (bw si 4 && (fre s n (ixI ce) && decide (n < 8))))
def aPost (s : Nat → Int32) (n : Nat) (kd ce si : Int32) : Int32 := if bw kd 6 && (bw ce 48 && bw si 4) then (if fre s n (ixI ce) then (if n < 8 then nI n else -1000000003) else -1000000002) else -1000000001
def nPost (s : Nat → Int32) (n : Nat) (kd ce si : Int32) : (Nat → Int32) × Nat := if okPost s n kd ce si then (cmS s n kd ce si (nI 0), n + 1) else (s, n)
def aAs (s : Nat → Int32) (n : Nat) (p kd : Int32) : Int32 := if bw p n && bw kd 6 then (if isO (s (10 + 4 * ixI p + 0)) kd then s (10 + 4 * ixI p + 1) else -1000000012) else -1000000001
def aTurns (s : Nat → Int32) (n : Nat) (p kd : Int32) : Int32 := if bw p n && bw kd 6 then s (10 + 4 * ixI p + 0) else -1000000001
def nTurns (s : Nat → Int32) (n : Nat) (p kd : Int32) : Nat → Int32 := if bw p n && bw kd 6 then upd s (10 + 4 * ixI p + 0) kd else s
def okSet (n : Nat) (p wh v : Int32) : Bool := bw p n && (decide (wh = nI 2) && bw v 4 || decide (wh = nI 3) && bw v 100)
def aSet (s : Nat → Int32) (n : Nat) (p wh v : Int32) : Int32 := if okSet n p wh v then s (10 + 4 * ixI p + ixI wh) else -1000000001
def nSet (s : Nat → Int32) (n : Nat) (p wh v : Int32) : Nat → Int32 := if okSet n p wh v then upd s (10 + 4 * ixI p + ixI wh) v else s
def aMoves (s : Nat → Int32) (n : Nat) (p ce : Int32) : Int32 := if bw p n && bw ce 48 then (if fre s n (ixI ce) then s (10 + 4 * ixI p + 1) else -1000000002) else -1000000001
def nMoves (s : Nat → Int32) (n : Nat) (p ce : Int32) : Nat → Int32 := if (bw p n && bw ce 48) && fre s n (ixI ce) then upd s (10 + 4 * ixI p + 1) ce else s
set_option maxHeartbeats 4000000 in
set_option maxRecDepth 100000 in
theorem c_W_post {g : Gl} {d ks : Nat} {h : AH} {ik wc : Int32} {s : Nat → Int32} {n nt : Nat} (hW : h[0]? = some (wtC g ik wc)) (hC : CR g h 1 s n nt) (hd : 3 ≤ d) (kd ce si : Int32) : Ex g mX6_post d 0 ks 0 [some (.ref (g.1 + 0)), some (.int kd), some (.int ce), some (.int si)] [] h (qi (fun h' r => (CR g h' 1 (nPost s n kd ce si).1 (nPost s n kd ce si).2 nt ∧ FrX (rmX 1) g h h') ∧ r = (aPost s n kd ce si))) := by
  have hR := hC.1
  have hP := hC.2.1
  have hn8 := hP.2.1
  have hN := hR.2.1
  obtain ⟨fp, hfp, hfp2⟩ := hR.2.2.2.1
  refine ex_iload_n (pc := 0) dX6_post_0 rfl ?_
  refine ex_bipush (pc := 1) (v := (nI 6)) dX6_post_1 (by decide) ?_
  refine cx_SL2i (pc := 3) dX6_post_3 lk_X6_69 rfl (Nat.le_of_ble_eq_true rfl) (Nat.le_of_ble_eq_true rfl) (by omega) (c_ib _ _) (fun h_3 x_3 q_3 => ?_)
  obtain ⟨e_3, f_3⟩ := q_3
  rw [e_3, f_3]
  refine ex_if_eq (pc := 6) (tgt := 26) dX6_post_6 (by decide) (fun c_6 => ?_) (fun c_6 => ?_)
  · skip
    have b_6 := bF c_6
    refine ex_ldc (pc := 26) dX6_post_26 cn_X6_73 ?_
    refine ex_ret dX6_post_28 rfl ?_
    have e1 : (nPost s n kd ce si) = (s, n) := by simp [nPost, aPost, okPost, b_6]
    rw [e1]
    refine qi_mk ⟨⟨hC, FrX.rf⟩, ?_⟩
    simp [nPost, aPost, okPost, b_6]
  · skip
    have b_6 := bT c_6
    refine ex_iload_n (pc := 9) dX6_post_9 rfl ?_
    refine ex_bipush (pc := 10) (v := (nI 48)) dX6_post_10 (by decide) ?_
    refine cx_SL2i (pc := 12) dX6_post_12 lk_X6_69 rfl (Nat.le_of_ble_eq_true rfl) (Nat.le_of_ble_eq_true rfl) (by omega) (c_ib _ _) (fun h_12 x_12 q_12 => ?_)
    obtain ⟨e_12, f_12⟩ := q_12
    rw [e_12, f_12]
    refine ex_if_eq (pc := 15) (tgt := 26) dX6_post_15 (by decide) (fun c_15 => ?_) (fun c_15 => ?_)
    · skip
      have b_15 := bF c_15
      refine ex_ldc (pc := 26) dX6_post_26 cn_X6_73 ?_
      refine ex_ret dX6_post_28 rfl ?_
      have e1 : (nPost s n kd ce si) = (s, n) := by simp [nPost, aPost, okPost, b_6, b_15]
      rw [e1]
      refine qi_mk ⟨⟨hC, FrX.rf⟩, ?_⟩
      simp [nPost, aPost, okPost, b_6, b_15]
    · skip
      have b_15 := bT c_15
      refine ex_iload_n (pc := 18) dX6_post_18 rfl ?_
      refine ex_iconst (pc := 19) (v := (nI 4)) dX6_post_19 (by decide) ?_
      refine cx_SL2i (pc := 20) dX6_post_20 lk_X6_69 rfl (Nat.le_of_ble_eq_true rfl) (Nat.le_of_ble_eq_true rfl) (by omega) (c_ib _ _) (fun h_20 x_20 q_20 => ?_)
      obtain ⟨e_20, f_20⟩ := q_20
      rw [e_20, f_20]
      refine ex_if_ne (pc := 23) (tgt := 29) dX6_post_23 (by decide) (fun c_23 => ?_) (fun c_23 => ?_)
      · skip
        have b_23 := bT c_23
        obtain ⟨c, hc, rfl⟩ := bw_ex b_15
        have i_c : ixI (nI c) = c := iK (by omega)
        refine ex_aload_n (pc := 29) dX6_post_29 rfl ?_
        refine ex_get (pc := 30) dX6_post_30 fl_X6_10 hW rfl ?_
        refine ex_iload_n (pc := 33) dX6_post_33 rfl ?_
        refine cx_VL1i (pc := 34) dX6_post_34 lk_X6_74 hR.1 rfl (Nat.le_of_ble_eq_true rfl) (Nat.le_of_ble_eq_true rfl) (by omega) (c_R_isFree hR (by omega) hc) (fun h_34 x_34 q_34 => ?_)
        obtain ⟨e_34, f_34⟩ := q_34
        rw [e_34, f_34]
        refine ex_if_ne (pc := 37) (tgt := 43) dX6_post_37 (by decide) (fun c_37 => ?_) (fun c_37 => ?_)
        · skip
          have b_37 := bT c_37
          refine ex_aload_n (pc := 43) dX6_post_43 rfl ?_
          refine ex_get (pc := 44) dX6_post_44 fl_X6_10 hW rfl ?_
          refine ex_get (pc := 47) dX6_post_47 fl_X6_79 hR.1 rfl ?_
          refine ex_bipush (pc := 50) (v := (nI 8)) dX6_post_50 (by decide) ?_
          rw [hN]
          refine ex_icmp_lt (pc := 52) (tgt := 58) dX6_post_52 (by decide) (fun c_52 => ?_) (fun c_52 => ?_)
          · skip
            have h_52 : n < 8 := (nI_ltI (by omega) (by omega)).mp c_52
            refine ex_aload_n (pc := 58) dX6_post_58 rfl ?_
            refine ex_get (pc := 59) dX6_post_59 fl_X6_10 hW rfl ?_
            refine ex_iload_n (pc := 62) dX6_post_62 rfl ?_
            refine ex_iload_n (pc := 63) dX6_post_63 rfl ?_
            refine ex_iload_n (pc := 64) dX6_post_64 rfl ?_
            refine ex_iconst (pc := 65) (v := (nI 0)) dX6_post_65 (by decide) ?_
            refine cx_VL4v (pc := 66) dX6_post_66 lk_X6_83 hR.1 rfl (Nat.le_of_ble_eq_true rfl) (Nat.le_of_ble_eq_true rfl) (by omega) (c_R_addPost hR (by omega) h_52 (by omega) _ _ _ _) (fun h_66 q_66 => ?_)
            obtain ⟨r1, u1⟩ := q_66
            refine ex_aload_n (pc := 69) dX6_post_69 rfl ?_
            refine ex_get (pc := 70) dX6_post_70 fl_X6_10 (u1.at (by unfold rmX; omega) (nscr (by omega)) hW) rfl ?_
            refine ex_get (pc := 73) dX6_post_73 fl_X6_79 r1.1 rfl ?_
            refine ex_iconst (pc := 76) (v := (nI 1)) dX6_post_76 (by decide) ?_
            refine ex_isub (pc := 77) dX6_post_77 ?_
            refine ex_ret dX6_post_78 rfl ?_
            obtain ⟨k0, hk0, rfl⟩ := bw_ex b_6
            obtain ⟨s0, hs0, rfl⟩ := bw_ex b_23
            have e1 : (nPost s n (nI k0) (nI c) (nI s0)) = (cmS s n (nI k0) (nI c) (nI s0) (nI 0), n + 1) := by simp [nPost, okPost, b_6, b_15, b_23, b_37, i_c, h_52]
            rw [e1]
            refine qi_mk ⟨⟨hC.updE u1 (lowE.cm h_52) r1 (hP.cm h_52 hk0 hc hs0), u1⟩, ?_⟩
            rw [cm_0 hN, nI_sub (by omega), Nat.add_sub_cancel]
            simp [aPost, b_6, b_15, b_23, b_37, i_c, h_52]
          · skip
            have h_52 : ¬ n < 8 := fun z => c_52 (nI_lt z (by omega))
            refine ex_ldc (pc := 55) dX6_post_55 cn_X6_82 ?_
            refine ex_ret dX6_post_57 rfl ?_
            have e1 : (nPost s n kd (nI c) si) = (s, n) := by simp [nPost, aPost, okPost, b_6, b_15, b_23, b_37, i_c, h_52]
            rw [e1]
            refine qi_mk ⟨⟨hC, FrX.rf⟩, ?_⟩
            simp [nPost, aPost, okPost, b_6, b_15, b_23, b_37, i_c, h_52]
        · skip
          have b_37 := bF c_37
          refine ex_ldc (pc := 40) dX6_post_40 cn_X6_78 ?_
          refine ex_ret dX6_post_42 rfl ?_
          have e1 : (nPost s n kd (nI c) si) = (s, n) := by simp [nPost, aPost, okPost, b_6, b_15, b_23, b_37, i_c]
          rw [e1]
          refine qi_mk ⟨⟨hC, FrX.rf⟩, ?_⟩
          simp [nPost, aPost, okPost, b_6, b_15, b_23, b_37, i_c]
      · skip
        have b_23 := bF c_23
        refine ex_ldc (pc := 26) dX6_post_26 cn_X6_73 ?_
        refine ex_ret dX6_post_28 rfl ?_
        have e1 : (nPost s n kd ce si) = (s, n) := by simp [nPost, aPost, okPost, b_6, b_15, b_23]
        rw [e1]
        refine qi_mk ⟨⟨hC, FrX.rf⟩, ?_⟩
        simp [nPost, aPost, okPost, b_6, b_15, b_23]
set_option maxHeartbeats 4000000 in
set_option maxRecDepth 100000 in
theorem c_M_post {g : Gl} {d ks : Nat} {h : AH} {z s : Nat → Int32} {n nt : Nat} (hR : MR g h z s n nt) (hd : 3 ≤ d) (kd ce si : Int32) : Ex g mX7_post d 0 ks 0 [some (.ref (g.1 + 75)), some (.int kd), some (.int ce), some (.int si)] [] h (qi (fun h' r => (MR g h' z (nPost s n kd ce si).1 (nPost s n kd ce si).2 nt ∧ FrX mX g h h') ∧ r = (aPost s n kd ce si))) := by
  have hM := hR.1
  have hP := hR.2.1
  have hn8 := hP.2.1
  have hN := hP.1
  refine ex_iload_n (pc := 0) dX7_post_0 rfl ?_
  refine ex_i2l (pc := 1) dX7_post_1 ?_
  refine ex_lconst (pc := 2) (v := 0) dX7_post_2 (by decide) ?_
  refine ex_ldc2_w (pc := 3) dX7_post_3 cn_X7_154 ?_
  refine cx_SL3i (pc := 6) dX7_post_6 lk_X7_69 rfl (Nat.le_of_ble_eq_true rfl) (Nat.le_of_ble_eq_true rfl) (by omega) (c_M_in _ (m := 6) (by decide)) (fun h_6 x_6 q_6 => ?_)
  obtain ⟨e_6, f_6⟩ := q_6
  rw [e_6, f_6]
  refine ex_if_eq (pc := 9) (tgt := 31) dX7_post_9 (by decide) (fun c_9 => ?_) (fun c_9 => ?_)
  · skip
    have b_9 := bF c_9
    refine ex_ldc (pc := 31) dX7_post_31 cn_X7_161 ?_
    refine ex_ret dX7_post_33 rfl ?_
    have e1 : (nPost s n kd ce si) = (s, n) := by simp [nPost, aPost, okPost, b_9]
    rw [e1]
    refine qi_mk ⟨⟨hR, FrX.rf⟩, ?_⟩
    simp [nPost, aPost, okPost, b_9]
  · skip
    have b_9 := bT c_9
    refine ex_iload_n (pc := 12) dX7_post_12 rfl ?_
    refine cx_SL1i (pc := 13) dX7_post_13 lk_X7_156 rfl (Nat.le_of_ble_eq_true rfl) (Nat.le_of_ble_eq_true rfl) (by omega) (c_M_cel (by omega) _) (fun h_13 x_13 q_13 => ?_)
    obtain ⟨e_13, f_13⟩ := q_13
    rw [e_13, f_13]
    refine ex_if_eq (pc := 16) (tgt := 31) dX7_post_16 (by decide) (fun c_16 => ?_) (fun c_16 => ?_)
    · skip
      have b_16 := bF c_16
      refine ex_ldc (pc := 31) dX7_post_31 cn_X7_161 ?_
      refine ex_ret dX7_post_33 rfl ?_
      have e1 : (nPost s n kd ce si) = (s, n) := by simp [nPost, aPost, okPost, b_9, b_16]
      rw [e1]
      refine qi_mk ⟨⟨hR, FrX.rf⟩, ?_⟩
      simp [nPost, aPost, okPost, b_9, b_16]
    · skip
      have b_16 := bT c_16
      refine ex_iload_n (pc := 19) dX7_post_19 rfl ?_
      refine ex_i2l (pc := 20) dX7_post_20 ?_
      refine ex_lconst (pc := 21) (v := 0) dX7_post_21 (by decide) ?_
      refine ex_ldc2_w (pc := 22) dX7_post_22 cn_X7_159 ?_
      refine cx_SL3i (pc := 25) dX7_post_25 lk_X7_69 rfl (Nat.le_of_ble_eq_true rfl) (Nat.le_of_ble_eq_true rfl) (by omega) (c_M_in _ (m := 4) (by decide)) (fun h_25 x_25 q_25 => ?_)
      obtain ⟨e_25, f_25⟩ := q_25
      rw [e_25, f_25]
      refine ex_if_ne (pc := 28) (tgt := 34) dX7_post_28 (by decide) (fun c_28 => ?_) (fun c_28 => ?_)
      · skip
        have b_28 := bT c_28
        obtain ⟨c, hc, rfl⟩ := bw_ex b_16
        have i_c : ixI (nI c) = c := iK (by omega)
        refine ex_aload_n (pc := 34) dX7_post_34 rfl ?_
        refine ex_iload_n (pc := 35) dX7_post_35 rfl ?_
        refine cx_VL1i (pc := 36) dX7_post_36 lk_X7_162 hM.1 rfl (Nat.le_of_ble_eq_true rfl) (Nat.le_of_ble_eq_true rfl) (by omega) (c_M_isFree hM hN hn8 (by omega) hc) (fun h_36 x_36 q_36 => ?_)
        obtain ⟨e_36, f_36⟩ := q_36
        rw [e_36, f_36]
        refine ex_if_ne (pc := 39) (tgt := 45) dX7_post_39 (by decide) (fun c_39 => ?_) (fun c_39 => ?_)
        · skip
          have b_39 := bT c_39
          refine ex_aload_n (pc := 45) dX7_post_45 rfl ?_
          refine ex_get (pc := 46) dX7_post_46 fl_X7_7 hM.1 rfl ?_
          refine ex_iconst (pc := 49) (v := (nI 0)) dX7_post_49 (by decide) ?_
          refine ex_ildn (k := 0) (pc := 50) dX7_post_50 hM.2 rfl (by decide) (by decide) ?_
          rw [hN]
          refine ex_bipush (pc := 51) (v := (nI 8)) dX7_post_51 (by decide) ?_
          refine ex_icmp_ne (pc := 53) (tgt := 59) dX7_post_53 (by decide) (fun c_53 => ?_) (fun c_53 => ?_)
          · skip
            have h_52 : n < 8 := by
              have q : ¬ n = 8 := fun z => c_53 (by rw [z])
              omega
            refine ex_aload_n (pc := 59) dX7_post_59 rfl ?_
            refine ex_iload_n (pc := 60) dX7_post_60 rfl ?_
            refine ex_iload_n (pc := 61) dX7_post_61 rfl ?_
            refine ex_iload_n (pc := 62) dX7_post_62 rfl ?_
            refine ex_iconst (pc := 63) (v := (nI 0)) dX7_post_63 (by decide) ?_
            refine cx_VL4v (pc := 64) dX7_post_64 lk_X7_167 hM.1 rfl (Nat.le_of_ble_eq_true rfl) (Nat.le_of_ble_eq_true rfl) (by omega) (c_M_comes2 hM hN (by omega) h_52 _ _ _ _) (fun h_64 q_64 => ?_)
            obtain ⟨r1, u1⟩ := q_64
            refine ex_aload_n (pc := 67) dX7_post_67 rfl ?_
            refine ex_get (pc := 68) dX7_post_68 fl_X7_7 r1.1 rfl ?_
            refine ex_iconst (pc := 71) (v := (nI 0)) dX7_post_71 (by decide) ?_
            refine ex_ildn (k := 0) (pc := 72) dX7_post_72 r1.2 rfl (by decide) (by decide) ?_
            refine ex_iconst (pc := 73) (v := (nI 1)) dX7_post_73 (by decide) ?_
            refine ex_isub (pc := 74) dX7_post_74 ?_
            refine ex_ret dX7_post_75 rfl ?_
            obtain ⟨k0, hk0, rfl⟩ := bw_ex b_9
            obtain ⟨s0, hs0, rfl⟩ := bw_ex b_28
            have e1 : (nPost s n (nI k0) (nI c) (nI s0)) = (cmS s n (nI k0) (nI c) (nI s0) (nI 0), n + 1) := by simp [nPost, okPost, b_9, b_16, b_28, b_39, i_c, h_52]
            rw [e1]
            refine qi_mk ⟨⟨hR.updE u1 (lowE.cm h_52) r1 (hP.cm h_52 hk0 hc hs0), u1⟩, ?_⟩
            rw [cm_0 hN, nI_sub (by omega), Nat.add_sub_cancel]
            simp [aPost, b_9, b_16, b_28, b_39, i_c, h_52]
          · skip
            have h_52 : ¬ n < 8 := by
              have q := (nI_eq (by omega) (by omega)).mp c_53
              omega
            refine ex_ldc (pc := 56) dX7_post_56 cn_X7_166 ?_
            refine ex_ret dX7_post_58 rfl ?_
            have e1 : (nPost s n kd (nI c) si) = (s, n) := by simp [nPost, aPost, okPost, b_9, b_16, b_28, b_39, i_c, h_52]
            rw [e1]
            refine qi_mk ⟨⟨hR, FrX.rf⟩, ?_⟩
            simp [nPost, aPost, okPost, b_9, b_16, b_28, b_39, i_c, h_52]
        · skip
          have b_39 := bF c_39
          refine ex_ldc (pc := 42) dX7_post_42 cn_X7_165 ?_
          refine ex_ret dX7_post_44 rfl ?_
          have e1 : (nPost s n kd (nI c) si) = (s, n) := by simp [nPost, aPost, okPost, b_9, b_16, b_28, b_39, i_c]
          rw [e1]
          refine qi_mk ⟨⟨hR, FrX.rf⟩, ?_⟩
          simp [nPost, aPost, okPost, b_9, b_16, b_28, b_39, i_c]
      · skip
        have b_28 := bF c_28
        refine ex_ldc (pc := 31) dX7_post_31 cn_X7_161 ?_
        refine ex_ret dX7_post_33 rfl ?_
        have e1 : (nPost s n kd ce si) = (s, n) := by simp [nPost, aPost, okPost, b_9, b_16, b_28]
        rw [e1]
        refine qi_mk ⟨⟨hR, FrX.rf⟩, ?_⟩
        simp [nPost, aPost, okPost, b_9, b_16, b_28]
set_option maxHeartbeats 4000000 in
set_option maxRecDepth 100000 in
theorem c_W_as {g : Gl} {d ks : Nat} {h : AH} {ik wc : Int32} {s : Nat → Int32} {n nt : Nat} (hW : h[0]? = some (wtC g ik wc)) (hC : CR g h 1 s n nt) (hd : 2 ≤ d) (p kd : Int32) : Ex g mX6_as d 0 ks 0 [some (.ref (g.1 + 0)), some (.int p), some (.int kd), none] [] h (qi (fun h' r => h' = h ∧ r = (aAs s n p kd))) := by
  have hR := hC.1
  have hP := hC.2.1
  have hn8 := hP.2.1
  have hN := hR.2.1
  obtain ⟨fp, hfp, hfp2⟩ := hR.2.2.2.1
  refine ex_aload_n (pc := 0) dX6_as_0 rfl ?_
  refine ex_iload_n (pc := 1) dX6_as_1 rfl ?_
  refine cx_VL1i (pc := 2) dX6_as_2 lk_X6_87 hW rfl (Nat.le_of_ble_eq_true rfl) (Nat.le_of_ble_eq_true rfl) (by omega) (c_W_isPost hW hR (by omega) _) (fun h_2 x_2 q_2 => ?_)
  obtain ⟨e_2, f_2⟩ := q_2
  rw [e_2, f_2]
  refine ex_if_eq (pc := 5) (tgt := 17) dX6_as_5 (by decide) (fun c_5 => ?_) (fun c_5 => ?_)
  · skip
    have b_5 := bF c_5
    refine ex_ldc (pc := 17) dX6_as_17 cn_X6_73 ?_
    refine ex_ret dX6_as_19 rfl ?_
    refine qi_mk ⟨rfl, ?_⟩
    simp [aAs, b_5]
  · skip
    have b_5 := bT c_5
    refine ex_iload_n (pc := 8) dX6_as_8 rfl ?_
    refine ex_bipush (pc := 9) (v := (nI 6)) dX6_as_9 (by decide) ?_
    refine cx_SL2i (pc := 11) dX6_as_11 lk_X6_69 rfl (Nat.le_of_ble_eq_true rfl) (Nat.le_of_ble_eq_true rfl) (by omega) (c_ib _ _) (fun h_11 x_11 q_11 => ?_)
    obtain ⟨e_11, f_11⟩ := q_11
    rw [e_11, f_11]
    refine ex_if_ne (pc := 14) (tgt := 20) dX6_as_14 (by decide) (fun c_14 => ?_) (fun c_14 => ?_)
    · skip
      have b_14 := bT c_14
      obtain ⟨p0, hp0, rfl⟩ := bw_ex b_5
      have i_p : ixI (nI p0) = p0 := iK (by omega)
      obtain ⟨κ, hκ, eκ⟩ := (hP.2.2 p0 hp0).1
      have hq := hR.2.2.2.2.1 p0 hp0
      unfold pS at hq
      rw [eκ] at hq
      refine ex_aload_n (pc := 20) dX6_as_20 rfl ?_
      refine ex_get (pc := 21) dX6_as_21 fl_X6_10 hW rfl ?_
      refine ex_get (pc := 24) dX6_as_24 fl_X6_90 hR.1 rfl ?_
      refine ex_iload_n (pc := 27) dX6_as_27 rfl ?_
      refine ex_aldn (k := p0) (v := .ref (g.1 + (1 + 4 + p0))) (pc := 28) dX6_as_28 rfl hfp rfl (by omega) (by decide) (congrArg va_rf (hfp2 p0 (by omega))) ?_
      refine sx_astore_n (pc := 29) dX6_as_29 rfl (by decide) ?_
      show Ex _ _ _ _ _ _ [_, _, _, _] _ _ _
      refine ex_aload_n (pc := 30) dX6_as_30 rfl ?_
      refine ex_iload_n (pc := 31) dX6_as_31 rfl ?_
      refine cx_VL1i (pc := 32) dX6_as_32 lk_X6_134 (hR.2.2.2.2.1 p0 hp0) rfl (Nat.le_of_ble_eq_true rfl) (Nat.le_of_ble_eq_true rfl) (by omega) (c_P_isOf hq hκ (by omega) _) (fun h_32 x_32 q_32 => ?_)
      obtain ⟨e_32, f_32⟩ := q_32
      rw [e_32, f_32]
      refine ex_if_eq (pc := 35) (tgt := 45) dX6_as_35 (by decide) (fun c_35 => ?_) (fun c_35 => ?_)
      · skip
        have b_35 := bF c_35
        refine ex_ldc (pc := 45) dX6_as_45 cn_X6_137 ?_
        refine ex_ret dX6_as_47 rfl ?_
        refine qi_mk ⟨rfl, ?_⟩
        simp only [aAs, i_p, eκ, b_5, b_14, b_35, Bool.and_self, Bool.and_true, Bool.true_and, Bool.and_false, Bool.false_and, Bool.or_true, Bool.true_or, Bool.or_false, Bool.false_or, Bool.not_true, Bool.not_false, Bool.false_eq_true, ↓reduceIte]
      · skip
        have b_35 := bT c_35
        refine ex_aload_n (pc := 38) dX6_as_38 rfl ?_
        refine ex_get (pc := 39) dX6_as_39 fl_X6_97 (hR.2.2.2.2.1 p0 hp0) rfl ?_
        refine ex_goto (pc := 42) (tgt := 47) dX6_as_42 (by decide) ?_
        refine ex_ret dX6_as_47 rfl ?_
        refine qi_mk ⟨rfl, ?_⟩
        simp only [aAs, i_p, eκ, b_5, b_14, b_35, Bool.and_self, Bool.and_true, Bool.true_and, Bool.and_false, Bool.false_and, Bool.or_true, Bool.true_or, Bool.or_false, Bool.false_or, Bool.not_true, Bool.not_false, Bool.false_eq_true, ↓reduceIte]
    · skip
      have b_14 := bF c_14
      refine ex_ldc (pc := 17) dX6_as_17 cn_X6_73 ?_
      refine ex_ret dX6_as_19 rfl ?_
      refine qi_mk ⟨rfl, ?_⟩
      simp [aAs, b_5, b_14]
set_option maxHeartbeats 4000000 in
set_option maxRecDepth 100000 in
theorem c_M_as {g : Gl} {d ks : Nat} {h : AH} {z s : Nat → Int32} {n nt : Nat} (hR : MR g h z s n nt) (hd : 2 ≤ d) (p kd : Int32) : Ex g mX7_as d 0 ks 0 [some (.ref (g.1 + 75)), some (.int p), some (.int kd)] [] h (qi (fun h' r => h' = h ∧ r = (aAs s n p kd))) := by
  have hM := hR.1
  have hP := hR.2.1
  have hn8 := hP.2.1
  have hN := hP.1
  refine ex_aload_n (pc := 0) dX7_as_0 rfl ?_
  refine ex_iload_n (pc := 1) dX7_as_1 rfl ?_
  refine cx_VL1i (pc := 2) dX7_as_2 lk_X7_171 hM.1 rfl (Nat.le_of_ble_eq_true rfl) (Nat.le_of_ble_eq_true rfl) (by omega) (c_M_isp hM hN hn8 (by omega) _) (fun h_2 x_2 q_2 => ?_)
  obtain ⟨e_2, f_2⟩ := q_2
  rw [e_2, f_2]
  refine ex_if_eq (pc := 5) (tgt := 20) dX7_as_5 (by decide) (fun c_5 => ?_) (fun c_5 => ?_)
  · skip
    have b_5 := bF c_5
    refine ex_ldc (pc := 20) dX7_as_20 cn_X7_161 ?_
    refine ex_ret dX7_as_22 rfl ?_
    refine qi_mk ⟨rfl, ?_⟩
    simp [aAs, b_5]
  · skip
    have b_5 := bT c_5
    refine ex_iload_n (pc := 8) dX7_as_8 rfl ?_
    refine ex_i2l (pc := 9) dX7_as_9 ?_
    refine ex_lconst (pc := 10) (v := 0) dX7_as_10 (by decide) ?_
    refine ex_ldc2_w (pc := 11) dX7_as_11 cn_X7_154 ?_
    refine cx_SL3i (pc := 14) dX7_as_14 lk_X7_69 rfl (Nat.le_of_ble_eq_true rfl) (Nat.le_of_ble_eq_true rfl) (by omega) (c_M_in _ (m := 6) (by decide)) (fun h_14 x_14 q_14 => ?_)
    obtain ⟨e_14, f_14⟩ := q_14
    rw [e_14, f_14]
    refine ex_if_ne (pc := 17) (tgt := 23) dX7_as_17 (by decide) (fun c_17 => ?_) (fun c_17 => ?_)
    · skip
      have b_17 := bT c_17
      obtain ⟨p0, hp0, rfl⟩ := bw_ex b_5
      have i_p : ixI (nI p0) = p0 := iK (by omega)
      refine ex_aload_n (pc := 23) dX7_as_23 rfl ?_
      refine ex_iload_n (pc := 24) dX7_as_24 rfl ?_
      refine ex_iconst (pc := 25) (v := (nI 0)) dX7_as_25 (by decide) ?_
      refine cx_VL2i (pc := 26) dX7_as_26 lk_X7_76 hM.1 rfl (Nat.le_of_ble_eq_true rfl) (Nat.le_of_ble_eq_true rfl) (by omega) (c_M_of hM (k := p0) (f := 0) (by omega)) (fun h_26 x_26 q_26 => ?_)
      obtain ⟨e_26, f_26⟩ := q_26
      rw [e_26, f_26]
      refine ex_iload_n (pc := 29) dX7_as_29 rfl ?_
      refine cx_SL2i (pc := 30) dX7_as_30 lk_X7_183 rfl (Nat.le_of_ble_eq_true rfl) (Nat.le_of_ble_eq_true rfl) (by omega) (c_M_isOf _ _) (fun h_30 x_30 q_30 => ?_)
      obtain ⟨e_30, f_30⟩ := q_30
      rw [e_30, f_30]
      refine ex_if_eq (pc := 33) (tgt := 45) dX7_as_33 (by decide) (fun c_33 => ?_) (fun c_33 => ?_)
      · skip
        have b_33 := bF c_33
        refine ex_ldc (pc := 45) dX7_as_45 cn_X7_187 ?_
        refine ex_ret dX7_as_47 rfl ?_
        refine qi_mk ⟨rfl, ?_⟩
        simp only [aAs, i_p, b_5, b_17, b_33, Bool.and_self, Bool.and_true, Bool.true_and, Bool.and_false, Bool.false_and, Bool.or_true, Bool.true_or, Bool.or_false, Bool.false_or, Bool.not_true, Bool.not_false, Bool.false_eq_true, ↓reduceIte]
      · skip
        have b_33 := bT c_33
        refine ex_aload_n (pc := 36) dX7_as_36 rfl ?_
        refine ex_iload_n (pc := 37) dX7_as_37 rfl ?_
        refine ex_iconst (pc := 38) (v := (nI 1)) dX7_as_38 (by decide) ?_
        refine cx_VL2i (pc := 39) dX7_as_39 lk_X7_76 hM.1 rfl (Nat.le_of_ble_eq_true rfl) (Nat.le_of_ble_eq_true rfl) (by omega) (c_M_of hM (k := p0) (f := 1) (by omega)) (fun h_39 x_39 q_39 => ?_)
        obtain ⟨e_39, f_39⟩ := q_39
        rw [e_39, f_39]
        refine ex_goto (pc := 42) (tgt := 47) dX7_as_42 (by decide) ?_
        refine ex_ret dX7_as_47 rfl ?_
        refine qi_mk ⟨rfl, ?_⟩
        simp only [aAs, i_p, b_5, b_17, b_33, Bool.and_self, Bool.and_true, Bool.true_and, Bool.and_false, Bool.false_and, Bool.or_true, Bool.true_or, Bool.or_false, Bool.false_or, Bool.not_true, Bool.not_false, Bool.false_eq_true, ↓reduceIte]
    · skip
      have b_17 := bF c_17
      refine ex_ldc (pc := 20) dX7_as_20 cn_X7_161 ?_
      refine ex_ret dX7_as_22 rfl ?_
      refine qi_mk ⟨rfl, ?_⟩
      simp [aAs, b_5, b_17]
set_option maxHeartbeats 4000000 in
set_option maxRecDepth 100000 in
theorem c_W_turns {g : Gl} {d ks : Nat} {h : AH} {ik wc : Int32} {s : Nat → Int32} {n nt : Nat} (hW : h[0]? = some (wtC g ik wc)) (hC : CR g h 1 s n nt) (hd : 2 ≤ d) (p kd : Int32) : Ex g mX6_turns d 0 ks 0 [some (.ref (g.1 + 0)), some (.int p), some (.int kd), none] [] h (qi (fun h' r => (CR g h' 1 (nTurns s n p kd) n nt ∧ FrX (rmX 1) g h h') ∧ r = (aTurns s n p kd))) := by
  have hR := hC.1
  have hP := hC.2.1
  have hn8 := hP.2.1
  have hN := hR.2.1
  obtain ⟨fp, hfp, hfp2⟩ := hR.2.2.2.1
  refine ex_aload_n (pc := 0) dX6_turns_0 rfl ?_
  refine ex_iload_n (pc := 1) dX6_turns_1 rfl ?_
  refine cx_VL1i (pc := 2) dX6_turns_2 lk_X6_87 hW rfl (Nat.le_of_ble_eq_true rfl) (Nat.le_of_ble_eq_true rfl) (by omega) (c_W_isPost hW hR (by omega) _) (fun h_2 x_2 q_2 => ?_)
  obtain ⟨e_2, f_2⟩ := q_2
  rw [e_2, f_2]
  refine ex_if_eq (pc := 5) (tgt := 17) dX6_turns_5 (by decide) (fun c_5 => ?_) (fun c_5 => ?_)
  · skip
    have b_5 := bF c_5
    refine ex_ldc (pc := 17) dX6_turns_17 cn_X6_73 ?_
    refine ex_ret dX6_turns_19 rfl ?_
    have e1 : (nTurns s n p kd) = s := by simp [nTurns, aTurns, b_5]
    rw [e1]
    refine qi_mk ⟨⟨hC, FrX.rf⟩, ?_⟩
    simp [nTurns, aTurns, b_5]
  · skip
    have b_5 := bT c_5
    refine ex_iload_n (pc := 8) dX6_turns_8 rfl ?_
    refine ex_bipush (pc := 9) (v := (nI 6)) dX6_turns_9 (by decide) ?_
    refine cx_SL2i (pc := 11) dX6_turns_11 lk_X6_69 rfl (Nat.le_of_ble_eq_true rfl) (Nat.le_of_ble_eq_true rfl) (by omega) (c_ib _ _) (fun h_11 x_11 q_11 => ?_)
    obtain ⟨e_11, f_11⟩ := q_11
    rw [e_11, f_11]
    refine ex_if_ne (pc := 14) (tgt := 20) dX6_turns_14 (by decide) (fun c_14 => ?_) (fun c_14 => ?_)
    · skip
      have b_14 := bT c_14
      obtain ⟨p0, hp0, rfl⟩ := bw_ex b_5
      have i_p : ixI (nI p0) = p0 := iK (by omega)
      obtain ⟨k0, hk0, rfl⟩ := bw_ex b_14
      refine ex_aload_n (pc := 20) dX6_turns_20 rfl ?_
      refine ex_get (pc := 21) dX6_turns_21 fl_X6_10 hW rfl ?_
      refine ex_get (pc := 24) dX6_turns_24 fl_X6_90 hR.1 rfl ?_
      refine ex_iload_n (pc := 27) dX6_turns_27 rfl ?_
      refine ex_aldn (k := p0) (v := .ref (g.1 + (1 + 4 + p0))) (pc := 28) dX6_turns_28 rfl hfp rfl (by omega) (by decide) (congrArg va_rf (hfp2 p0 (by omega))) ?_
      refine ex_get (pc := 29) dX6_turns_29 fl_X6_94 (hR.2.2.2.2.1 p0 hp0) rfl ?_
      refine sx_istore_n (pc := 32) dX6_turns_32 rfl (by decide) ?_
      show Ex _ _ _ _ _ _ [_, _, _, _] _ _ _
      refine ex_aload_n (pc := 33) dX6_turns_33 rfl ?_
      refine ex_get (pc := 34) dX6_turns_34 fl_X6_10 hW rfl ?_
      refine ex_get (pc := 37) dX6_turns_37 fl_X6_90 hR.1 rfl ?_
      refine ex_iload_n (pc := 40) dX6_turns_40 rfl ?_
      refine ex_aldn (k := p0) (v := .ref (g.1 + (1 + 4 + p0))) (pc := 41) dX6_turns_41 rfl hfp rfl (by omega) (by decide) (congrArg va_rf (hfp2 p0 (by omega))) ?_
      refine ex_iload_n (pc := 42) dX6_turns_42 rfl ?_
      refine ex_put (pc := 43) dX6_turns_43 fp_X6_94 (hR.2.2.2.2.1 p0 hp0) (Nat.le_of_ble_eq_true rfl) rfl rfl ?_
      rw [ps_0]
      refine ex_iload_n (pc := 46) dX6_turns_46 rfl ?_
      refine ex_ret dX6_turns_47 rfl ?_
      have e1 : (nTurns s n (nI p0) (nI k0)) = upd s (10 + 4 * p0 + 0) (nI k0) := by simp [nTurns, aTurns, b_5, b_14, i_p]
      rw [e1]
      refine qi_mk ⟨cr_pst hC _ hp0 (by omega) (hP.pst (by omega) hk0 rfl), ?_⟩
      simp [nTurns, aTurns, b_5, b_14, i_p]
    · skip
      have b_14 := bF c_14
      refine ex_ldc (pc := 17) dX6_turns_17 cn_X6_73 ?_
      refine ex_ret dX6_turns_19 rfl ?_
      have e1 : (nTurns s n p kd) = s := by simp [nTurns, aTurns, b_5, b_14]
      rw [e1]
      refine qi_mk ⟨⟨hC, FrX.rf⟩, ?_⟩
      simp [nTurns, aTurns, b_5, b_14]
set_option maxHeartbeats 4000000 in
set_option maxRecDepth 100000 in
theorem c_M_turns {g : Gl} {d ks : Nat} {h : AH} {z s : Nat → Int32} {n nt : Nat} (hR : MR g h z s n nt) (hd : 2 ≤ d) (p kd : Int32) : Ex g mX7_turns d 0 ks 0 [some (.ref (g.1 + 75)), some (.int p), some (.int kd)] [] h (qi (fun h' r => (MR g h' z (nTurns s n p kd) n nt ∧ FrX mX g h h') ∧ r = (aTurns s n p kd))) := by
  have hM := hR.1
  have hP := hR.2.1
  have hn8 := hP.2.1
  have hN := hP.1
  refine ex_aload_n (pc := 0) dX7_turns_0 rfl ?_
  refine ex_iload_n (pc := 1) dX7_turns_1 rfl ?_
  refine cx_VL1i (pc := 2) dX7_turns_2 lk_X7_171 hM.1 rfl (Nat.le_of_ble_eq_true rfl) (Nat.le_of_ble_eq_true rfl) (by omega) (c_M_isp hM hN hn8 (by omega) _) (fun h_2 x_2 q_2 => ?_)
  obtain ⟨e_2, f_2⟩ := q_2
  rw [e_2, f_2]
  refine ex_if_eq (pc := 5) (tgt := 34) dX7_turns_5 (by decide) (fun c_5 => ?_) (fun c_5 => ?_)
  · skip
    have b_5 := bF c_5
    refine ex_ldc (pc := 34) dX7_turns_34 cn_X7_161 ?_
    refine ex_ret dX7_turns_36 rfl ?_
    have e1 : (nTurns s n p kd) = s := by simp [nTurns, aTurns, b_5]
    rw [e1]
    refine qi_mk ⟨⟨hR, FrX.rf⟩, ?_⟩
    simp [nTurns, aTurns, b_5]
  · skip
    have b_5 := bT c_5
    refine ex_iload_n (pc := 8) dX7_turns_8 rfl ?_
    refine ex_i2l (pc := 9) dX7_turns_9 ?_
    refine ex_lconst (pc := 10) (v := 0) dX7_turns_10 (by decide) ?_
    refine ex_ldc2_w (pc := 11) dX7_turns_11 cn_X7_154 ?_
    refine cx_SL3i (pc := 14) dX7_turns_14 lk_X7_69 rfl (Nat.le_of_ble_eq_true rfl) (Nat.le_of_ble_eq_true rfl) (by omega) (c_M_in _ (m := 6) (by decide)) (fun h_14 x_14 q_14 => ?_)
    obtain ⟨e_14, f_14⟩ := q_14
    rw [e_14, f_14]
    refine ex_if_eq (pc := 17) (tgt := 34) dX7_turns_17 (by decide) (fun c_17 => ?_) (fun c_17 => ?_)
    · skip
      have b_17 := bF c_17
      refine ex_ldc (pc := 34) dX7_turns_34 cn_X7_161 ?_
      refine ex_ret dX7_turns_36 rfl ?_
      have e1 : (nTurns s n p kd) = s := by simp [nTurns, aTurns, b_5, b_17]
      rw [e1]
      refine qi_mk ⟨⟨hR, FrX.rf⟩, ?_⟩
      simp [nTurns, aTurns, b_5, b_17]
    · skip
      have b_17 := bT c_17
      obtain ⟨p0, hp0, rfl⟩ := bw_ex b_5
      have i_p : ixI (nI p0) = p0 := iK (by omega)
      obtain ⟨k0, hk0, rfl⟩ := bw_ex b_17
      refine ex_aload_n (pc := 20) dX7_turns_20 rfl ?_
      refine ex_bipush (pc := 21) (v := (nI 10)) dX7_turns_21 (by decide) ?_
      refine ex_iconst (pc := 23) (v := (nI 4)) dX7_turns_23 (by decide) ?_
      refine ex_iload_n (pc := 24) dX7_turns_24 rfl ?_
      refine ex_imul (pc := 25) dX7_turns_25 ?_
      refine ex_iadd (pc := 26) dX7_turns_26 ?_
      refine ex_iload_n (pc := 27) dX7_turns_27 rfl ?_
      rw [nI_mul, nI_add]
      refine cx_VL2i (pc := 28) dX7_turns_28 lk_X7_188 hM.1 rfl (Nat.le_of_ble_eq_true rfl) (Nat.le_of_ble_eq_true rfl) (by omega) (c_M_changes hM (k := 10 + 4 * p0) (by omega) _) (fun h_28 x_28 q_28 => ?_)
      obtain ⟨e_28, f_28⟩ := q_28
      rw [f_28]
      refine ex_goto (pc := 31) (tgt := 36) dX7_turns_31 (by decide) ?_
      refine ex_ret dX7_turns_36 rfl ?_
      have e1 : (nTurns s n (nI p0) (nI k0)) = upd s (10 + 4 * p0 + 0) (nI k0) := by simp [nTurns, aTurns, b_5, b_17, i_p]
      rw [e1]
      refine qi_mk ⟨by rw [e_28]; exact mr_st hR (lowE.up (by omega) (by omega)) (hP.pst (i := p0) (f := 0) (by omega) hk0 rfl), ?_⟩
      simp [nTurns, aTurns, b_5, b_17, i_p]
set_option maxHeartbeats 4000000 in
set_option maxRecDepth 100000 in
theorem c_W_moves {g : Gl} {d ks : Nat} {h : AH} {ik wc : Int32} {s : Nat → Int32} {n nt : Nat} (hW : h[0]? = some (wtC g ik wc)) (hC : CR g h 1 s n nt) (hd : 2 ≤ d) (p ce : Int32) : Ex g mX6_moves d 0 ks 0 [some (.ref (g.1 + 0)), some (.int p), some (.int ce), none] [] h (qi (fun h' r => (CR g h' 1 (nMoves s n p ce) n nt ∧ FrX (rmX 1) g h h') ∧ r = (aMoves s n p ce))) := by
  have hR := hC.1
  have hP := hC.2.1
  have hn8 := hP.2.1
  have hN := hR.2.1
  obtain ⟨fp, hfp, hfp2⟩ := hR.2.2.2.1
  refine ex_aload_n (pc := 0) dX6_moves_0 rfl ?_
  refine ex_iload_n (pc := 1) dX6_moves_1 rfl ?_
  refine cx_VL1i (pc := 2) dX6_moves_2 lk_X6_87 hW rfl (Nat.le_of_ble_eq_true rfl) (Nat.le_of_ble_eq_true rfl) (by omega) (c_W_isPost hW hR (by omega) _) (fun h_2 x_2 q_2 => ?_)
  obtain ⟨e_2, f_2⟩ := q_2
  rw [e_2, f_2]
  refine ex_if_eq (pc := 5) (tgt := 17) dX6_moves_5 (by decide) (fun c_5 => ?_) (fun c_5 => ?_)
  · skip
    have b_5 := bF c_5
    refine ex_ldc (pc := 17) dX6_moves_17 cn_X6_73 ?_
    refine ex_ret dX6_moves_19 rfl ?_
    have e1 : (nMoves s n p ce) = s := by simp [nMoves, aMoves, b_5]
    rw [e1]
    refine qi_mk ⟨⟨hC, FrX.rf⟩, ?_⟩
    simp [nMoves, aMoves, b_5]
  · skip
    have b_5 := bT c_5
    refine ex_iload_n (pc := 8) dX6_moves_8 rfl ?_
    refine ex_bipush (pc := 9) (v := (nI 48)) dX6_moves_9 (by decide) ?_
    refine cx_SL2i (pc := 11) dX6_moves_11 lk_X6_69 rfl (Nat.le_of_ble_eq_true rfl) (Nat.le_of_ble_eq_true rfl) (by omega) (c_ib _ _) (fun h_11 x_11 q_11 => ?_)
    obtain ⟨e_11, f_11⟩ := q_11
    rw [e_11, f_11]
    refine ex_if_ne (pc := 14) (tgt := 20) dX6_moves_14 (by decide) (fun c_14 => ?_) (fun c_14 => ?_)
    · skip
      have b_14 := bT c_14
      obtain ⟨p0, hp0, rfl⟩ := bw_ex b_5
      have i_p : ixI (nI p0) = p0 := iK (by omega)
      obtain ⟨c, hc, rfl⟩ := bw_ex b_14
      have i_c : ixI (nI c) = c := iK (by omega)
      refine ex_aload_n (pc := 20) dX6_moves_20 rfl ?_
      refine ex_get (pc := 21) dX6_moves_21 fl_X6_10 hW rfl ?_
      refine ex_iload_n (pc := 24) dX6_moves_24 rfl ?_
      refine cx_VL1i (pc := 25) dX6_moves_25 lk_X6_74 hR.1 rfl (Nat.le_of_ble_eq_true rfl) (Nat.le_of_ble_eq_true rfl) (by omega) (c_R_isFree hR (by omega) hc) (fun h_25 x_25 q_25 => ?_)
      obtain ⟨e_25, f_25⟩ := q_25
      rw [e_25, f_25]
      refine ex_if_ne (pc := 28) (tgt := 34) dX6_moves_28 (by decide) (fun c_28 => ?_) (fun c_28 => ?_)
      · skip
        have b_28 := bT c_28
        refine ex_aload_n (pc := 34) dX6_moves_34 rfl ?_
        refine ex_get (pc := 35) dX6_moves_35 fl_X6_10 hW rfl ?_
        refine ex_get (pc := 38) dX6_moves_38 fl_X6_90 hR.1 rfl ?_
        refine ex_iload_n (pc := 41) dX6_moves_41 rfl ?_
        refine ex_aldn (k := p0) (v := .ref (g.1 + (1 + 4 + p0))) (pc := 42) dX6_moves_42 rfl hfp rfl (by omega) (by decide) (congrArg va_rf (hfp2 p0 (by omega))) ?_
        refine ex_get (pc := 43) dX6_moves_43 fl_X6_97 (hR.2.2.2.2.1 p0 hp0) rfl ?_
        refine sx_istore_n (pc := 46) dX6_moves_46 rfl (by decide) ?_
        show Ex _ _ _ _ _ _ [_, _, _, _] _ _ _
        refine ex_aload_n (pc := 47) dX6_moves_47 rfl ?_
        refine ex_get (pc := 48) dX6_moves_48 fl_X6_10 hW rfl ?_
        refine ex_get (pc := 51) dX6_moves_51 fl_X6_90 hR.1 rfl ?_
        refine ex_iload_n (pc := 54) dX6_moves_54 rfl ?_
        refine ex_aldn (k := p0) (v := .ref (g.1 + (1 + 4 + p0))) (pc := 55) dX6_moves_55 rfl hfp rfl (by omega) (by decide) (congrArg va_rf (hfp2 p0 (by omega))) ?_
        refine ex_iload_n (pc := 56) dX6_moves_56 rfl ?_
        refine ex_put (pc := 57) dX6_moves_57 fp_X6_97 (hR.2.2.2.2.1 p0 hp0) (Nat.le_of_ble_eq_true rfl) rfl rfl ?_
        rw [ps_1]
        refine ex_iload_n (pc := 60) dX6_moves_60 rfl ?_
        refine ex_ret dX6_moves_61 rfl ?_
        have e1 : (nMoves s n (nI p0) (nI c)) = upd s (10 + 4 * p0 + 1) (nI c) := by simp [nMoves, aMoves, b_5, b_14, b_28, i_p, i_c]
        rw [e1]
        refine qi_mk ⟨cr_pst hC _ hp0 (by omega) (hP.pst (by omega) hc rfl), ?_⟩
        simp [nMoves, aMoves, b_5, b_14, b_28, i_p, i_c]
      · skip
        have b_28 := bF c_28
        refine ex_ldc (pc := 31) dX6_moves_31 cn_X6_78 ?_
        refine ex_ret dX6_moves_33 rfl ?_
        have e1 : (nMoves s n (nI p0) (nI c)) = s := by simp [nMoves, aMoves, b_5, b_14, b_28, i_p, i_c]
        rw [e1]
        refine qi_mk ⟨⟨hC, FrX.rf⟩, ?_⟩
        simp [nMoves, aMoves, b_5, b_14, b_28, i_p, i_c]
    · skip
      have b_14 := bF c_14
      refine ex_ldc (pc := 17) dX6_moves_17 cn_X6_73 ?_
      refine ex_ret dX6_moves_19 rfl ?_
      have e1 : (nMoves s n p ce) = s := by simp [nMoves, aMoves, b_5, b_14]
      rw [e1]
      refine qi_mk ⟨⟨hC, FrX.rf⟩, ?_⟩
      simp [nMoves, aMoves, b_5, b_14]
set_option maxHeartbeats 4000000 in
set_option maxRecDepth 100000 in
theorem c_M_moves {g : Gl} {d ks : Nat} {h : AH} {z s : Nat → Int32} {n nt : Nat} (hR : MR g h z s n nt) (hd : 3 ≤ d) (p ce : Int32) : Ex g mX7_moves d 0 ks 0 [some (.ref (g.1 + 75)), some (.int p), some (.int ce)] [] h (qi (fun h' r => (MR g h' z (nMoves s n p ce) n nt ∧ FrX mX g h h') ∧ r = (aMoves s n p ce))) := by
  have hM := hR.1
  have hP := hR.2.1
  have hn8 := hP.2.1
  have hN := hP.1
  refine ex_aload_n (pc := 0) dX7_moves_0 rfl ?_
  refine ex_iload_n (pc := 1) dX7_moves_1 rfl ?_
  refine cx_VL1i (pc := 2) dX7_moves_2 lk_X7_171 hM.1 rfl (Nat.le_of_ble_eq_true rfl) (Nat.le_of_ble_eq_true rfl) (by omega) (c_M_isp hM hN hn8 (by omega) _) (fun h_2 x_2 q_2 => ?_)
  obtain ⟨e_2, f_2⟩ := q_2
  rw [e_2, f_2]
  refine ex_if_eq (pc := 5) (tgt := 15) dX7_moves_5 (by decide) (fun c_5 => ?_) (fun c_5 => ?_)
  · skip
    have b_5 := bF c_5
    refine ex_ldc (pc := 15) dX7_moves_15 cn_X7_161 ?_
    refine ex_ret dX7_moves_17 rfl ?_
    have e1 : (nMoves s n p ce) = s := by simp [nMoves, aMoves, b_5]
    rw [e1]
    refine qi_mk ⟨⟨hR, FrX.rf⟩, ?_⟩
    simp [nMoves, aMoves, b_5]
  · skip
    have b_5 := bT c_5
    refine ex_iload_n (pc := 8) dX7_moves_8 rfl ?_
    refine cx_SL1i (pc := 9) dX7_moves_9 lk_X7_156 rfl (Nat.le_of_ble_eq_true rfl) (Nat.le_of_ble_eq_true rfl) (by omega) (c_M_cel (by omega) _) (fun h_9 x_9 q_9 => ?_)
    obtain ⟨e_9, f_9⟩ := q_9
    rw [e_9, f_9]
    refine ex_if_ne (pc := 12) (tgt := 18) dX7_moves_12 (by decide) (fun c_12 => ?_) (fun c_12 => ?_)
    · skip
      have b_12 := bT c_12
      obtain ⟨p0, hp0, rfl⟩ := bw_ex b_5
      have i_p : ixI (nI p0) = p0 := iK (by omega)
      obtain ⟨c, hc, rfl⟩ := bw_ex b_12
      have i_c : ixI (nI c) = c := iK (by omega)
      refine ex_aload_n (pc := 18) dX7_moves_18 rfl ?_
      refine ex_iload_n (pc := 19) dX7_moves_19 rfl ?_
      refine cx_VL1i (pc := 20) dX7_moves_20 lk_X7_162 hM.1 rfl (Nat.le_of_ble_eq_true rfl) (Nat.le_of_ble_eq_true rfl) (by omega) (c_M_isFree hM hN hn8 (by omega) hc) (fun h_20 x_20 q_20 => ?_)
      obtain ⟨e_20, f_20⟩ := q_20
      rw [e_20, f_20]
      refine ex_if_eq (pc := 23) (tgt := 42) dX7_moves_23 (by decide) (fun c_23 => ?_) (fun c_23 => ?_)
      · skip
        have b_23 := bF c_23
        refine ex_ldc (pc := 42) dX7_moves_42 cn_X7_165 ?_
        refine ex_ret dX7_moves_44 rfl ?_
        have e1 : (nMoves s n (nI p0) (nI c)) = s := by simp [nMoves, aMoves, b_5, b_12, b_23, i_p, i_c]
        rw [e1]
        refine qi_mk ⟨⟨hR, FrX.rf⟩, ?_⟩
        simp [nMoves, aMoves, b_5, b_12, b_23, i_p, i_c]
      · skip
        have b_23 := bT c_23
        refine ex_aload_n (pc := 26) dX7_moves_26 rfl ?_
        refine ex_bipush (pc := 27) (v := (nI 10)) dX7_moves_27 (by decide) ?_
        refine ex_iconst (pc := 29) (v := (nI 4)) dX7_moves_29 (by decide) ?_
        refine ex_iload_n (pc := 30) dX7_moves_30 rfl ?_
        refine ex_imul (pc := 31) dX7_moves_31 ?_
        refine ex_iadd (pc := 32) dX7_moves_32 ?_
        refine ex_iconst (pc := 33) (v := (nI 1)) dX7_moves_33 (by decide) ?_
        refine ex_iadd (pc := 34) dX7_moves_34 ?_
        refine ex_iload_n (pc := 35) dX7_moves_35 rfl ?_
        rw [nI_mul, nI_add, nI_add]
        refine cx_VL2i (pc := 36) dX7_moves_36 lk_X7_188 hM.1 rfl (Nat.le_of_ble_eq_true rfl) (Nat.le_of_ble_eq_true rfl) (by omega) (c_M_changes hM (k := 10 + 4 * p0 + 1) (by omega) _) (fun h_36 x_36 q_36 => ?_)
        obtain ⟨e_36, f_36⟩ := q_36
        rw [f_36]
        refine ex_goto (pc := 39) (tgt := 44) dX7_moves_39 (by decide) ?_
        refine ex_ret dX7_moves_44 rfl ?_
        have e1 : (nMoves s n (nI p0) (nI c)) = upd s (10 + 4 * p0 + 1) (nI c) := by simp [nMoves, aMoves, b_5, b_12, b_23, i_p, i_c]
        rw [e1]
        refine qi_mk ⟨by rw [e_36]; exact mr_st hR (lowE.up (by omega) (by omega)) (hP.pst (by omega) hc rfl), ?_⟩
        simp [nMoves, aMoves, b_5, b_12, b_23, i_p, i_c]
    · skip
      have b_12 := bF c_12
      refine ex_ldc (pc := 15) dX7_moves_15 cn_X7_161 ?_
      refine ex_ret dX7_moves_17 rfl ?_
      have e1 : (nMoves s n p ce) = s := by simp [nMoves, aMoves, b_5, b_12]
      rw [e1]
      refine qi_mk ⟨⟨hR, FrX.rf⟩, ?_⟩
      simp [nMoves, aMoves, b_5, b_12]
set_option maxHeartbeats 4000000 in
set_option maxRecDepth 100000 in
theorem c_W_set {g : Gl} {d ks : Nat} {h : AH} {ik wc : Int32} {s : Nat → Int32} {n nt : Nat} (hW : h[0]? = some (wtC g ik wc)) (hC : CR g h 1 s n nt) (hd : 2 ≤ d) (p wh v : Int32) : Ex g mX6_set d 0 ks 0 [some (.ref (g.1 + 0)), some (.int p), some (.int wh), some (.int v), none, none] [] h (qi (fun h' r => (CR g h' 1 (nSet s n p wh v) n nt ∧ FrX (rmX 1) g h h') ∧ r = (aSet s n p wh v))) := by
  have hR := hC.1
  have hP := hC.2.1
  have hn8 := hP.2.1
  have hN := hR.2.1
  obtain ⟨fp, hfp, hfp2⟩ := hR.2.2.2.1
  refine ex_aload_n (pc := 0) dX6_set_0 rfl ?_
  refine ex_iload_n (pc := 1) dX6_set_1 rfl ?_
  refine cx_VL1i (pc := 2) dX6_set_2 lk_X6_87 hW rfl (Nat.le_of_ble_eq_true rfl) (Nat.le_of_ble_eq_true rfl) (by omega) (c_W_isPost hW hR (by omega) _) (fun h_2 x_2 q_2 => ?_)
  obtain ⟨e_2, f_2⟩ := q_2
  rw [e_2, f_2]
  refine ex_if_ne (pc := 5) (tgt := 11) dX6_set_5 (by decide) (fun c_5 => ?_) (fun c_5 => ?_)
  · skip
    have b_5 := bT c_5
    obtain ⟨p0, hp0, rfl⟩ := bw_ex b_5
    have i_p : ixI (nI p0) = p0 := iK (by omega)
    refine ex_aload_n (pc := 11) dX6_set_11 rfl ?_
    refine ex_get (pc := 12) dX6_set_12 fl_X6_10 hW rfl ?_
    refine ex_get (pc := 15) dX6_set_15 fl_X6_90 hR.1 rfl ?_
    refine ex_iload_n (pc := 18) dX6_set_18 rfl ?_
    refine ex_aldn (k := p0) (v := .ref (g.1 + (1 + 4 + p0))) (pc := 19) dX6_set_19 rfl hfp rfl (by omega) (by decide) (congrArg va_rf (hfp2 p0 (by omega))) ?_
    refine sx_astore (pc := 20) dX6_set_20 rfl (by decide) ?_
    show Ex _ _ _ _ _ _ [_, _, _, _, _, _] _ _ _
    refine ex_iload_n (pc := 22) dX6_set_22 rfl ?_
    refine ex_iconst (pc := 23) (v := (nI 2)) dX6_set_23 (by decide) ?_
    refine ex_icmp_ne (pc := 24) (tgt := 51) dX6_set_24 (by decide) (fun c_24 => ?_) (fun c_24 => ?_)
    · skip
      refine ex_iload_n (pc := 51) dX6_set_51 rfl ?_
      refine ex_iconst (pc := 52) (v := (nI 3)) dX6_set_52 (by decide) ?_
      refine ex_icmp_ne (pc := 53) (tgt := 81) dX6_set_53 (by decide) (fun c_53 => ?_) (fun c_53 => ?_)
      · skip
        refine ex_ldc (pc := 81) dX6_set_81 cn_X6_73 ?_
        refine ex_ret dX6_set_83 rfl ?_
        have e1 : (nSet s n (nI p0) wh v) = s := by simp [nSet, aSet, okSet, b_5, i_p, c_24, c_53, show ¬ nI 2 = nI 3 by decide, show ¬ nI 3 = nI 2 by decide]
        rw [e1]
        refine qi_mk ⟨⟨hC, FrX.rf⟩, ?_⟩
        simp [nSet, aSet, okSet, b_5, i_p, c_24, c_53, show ¬ nI 2 = nI 3 by decide, show ¬ nI 3 = nI 2 by decide]
      · skip
        refine ex_iload_n (pc := 56) dX6_set_56 rfl ?_
        refine ex_bipush (pc := 57) (v := (nI 100)) dX6_set_57 (by decide) ?_
        refine cx_SL2i (pc := 59) dX6_set_59 lk_X6_69 rfl (Nat.le_of_ble_eq_true rfl) (Nat.le_of_ble_eq_true rfl) (by omega) (c_ib _ _) (fun h_59 x_59 q_59 => ?_)
        obtain ⟨e_59, f_59⟩ := q_59
        rw [e_59, f_59]
        refine ex_if_eq (pc := 62) (tgt := 81) dX6_set_62 (by decide) (fun c_62 => ?_) (fun c_62 => ?_)
        · skip
          have b_62 := bF c_62
          refine ex_ldc (pc := 81) dX6_set_81 cn_X6_73 ?_
          refine ex_ret dX6_set_83 rfl ?_
          have e1 : (nSet s n (nI p0) wh v) = s := by simp [nSet, aSet, okSet, b_5, b_62, i_p, c_24, c_53, show ¬ nI 2 = nI 3 by decide, show ¬ nI 3 = nI 2 by decide]
          rw [e1]
          refine qi_mk ⟨⟨hC, FrX.rf⟩, ?_⟩
          simp [nSet, aSet, okSet, b_5, b_62, i_p, c_24, c_53, show ¬ nI 2 = nI 3 by decide, show ¬ nI 3 = nI 2 by decide]
        · skip
          have b_62 := bT c_62
          refine ex_aload (pc := 65) dX6_set_65 rfl ?_
          refine ex_get (pc := 67) dX6_set_67 fl_X6_103 (hR.2.2.2.2.1 p0 hp0) rfl ?_
          refine sx_istore (pc := 70) dX6_set_70 rfl (by decide) ?_
          show Ex _ _ _ _ _ _ [_, _, _, _, _, _] _ _ _
          refine ex_aload (pc := 72) dX6_set_72 rfl ?_
          refine ex_iload_n (pc := 74) dX6_set_74 rfl ?_
          refine ex_put (pc := 75) dX6_set_75 fp_X6_103 (hR.2.2.2.2.1 p0 hp0) (Nat.le_of_ble_eq_true rfl) rfl rfl ?_
          rw [ps_3]
          refine ex_iload (pc := 78) dX6_set_78 rfl ?_
          refine ex_ret dX6_set_80 rfl ?_
          obtain ⟨v0, hv0, rfl⟩ := bw_ex b_62
          subst c_53
          have i_w : ixI (nI 3) = 3 := by decide
          have e1 : (nSet s n (nI p0) (nI 3) (nI v0)) = upd s (10 + 4 * p0 + 3) (nI v0) := by simp [nSet, aSet, okSet, b_5, b_62, i_p, i_w, show ¬ nI 2 = nI 3 by decide, show ¬ nI 3 = nI 2 by decide]
          rw [e1]
          refine qi_mk ⟨cr_pst hC _ hp0 (by omega) hP.trd, ?_⟩
          simp [nSet, aSet, okSet, b_5, b_62, i_p, i_w, show ¬ nI 2 = nI 3 by decide, show ¬ nI 3 = nI 2 by decide]
    · skip
      refine ex_iload_n (pc := 27) dX6_set_27 rfl ?_
      refine ex_iconst (pc := 28) (v := (nI 4)) dX6_set_28 (by decide) ?_
      refine cx_SL2i (pc := 29) dX6_set_29 lk_X6_69 rfl (Nat.le_of_ble_eq_true rfl) (Nat.le_of_ble_eq_true rfl) (by omega) (c_ib _ _) (fun h_29 x_29 q_29 => ?_)
      obtain ⟨e_29, f_29⟩ := q_29
      rw [e_29, f_29]
      refine ex_if_eq (pc := 32) (tgt := 51) dX6_set_32 (by decide) (fun c_32 => ?_) (fun c_32 => ?_)
      · skip
        have b_32 := bF c_32
        refine ex_iload_n (pc := 51) dX6_set_51 rfl ?_
        refine ex_iconst (pc := 52) (v := (nI 3)) dX6_set_52 (by decide) ?_
        refine ex_icmp_ne (pc := 53) (tgt := 81) dX6_set_53 (by decide) (fun c_53 => ?_) (fun c_53 => ?_)
        · skip
          refine ex_ldc (pc := 81) dX6_set_81 cn_X6_73 ?_
          refine ex_ret dX6_set_83 rfl ?_
          have e1 : (nSet s n (nI p0) wh v) = s := by simp [nSet, aSet, okSet, b_5, b_32, i_p, c_24, c_53, show ¬ nI 2 = nI 3 by decide, show ¬ nI 3 = nI 2 by decide]
          rw [e1]
          refine qi_mk ⟨⟨hC, FrX.rf⟩, ?_⟩
          simp [nSet, aSet, okSet, b_5, b_32, i_p, c_24, c_53, show ¬ nI 2 = nI 3 by decide, show ¬ nI 3 = nI 2 by decide]
        · skip
          refine ex_iload_n (pc := 56) dX6_set_56 rfl ?_
          refine ex_bipush (pc := 57) (v := (nI 100)) dX6_set_57 (by decide) ?_
          refine cx_SL2i (pc := 59) dX6_set_59 lk_X6_69 rfl (Nat.le_of_ble_eq_true rfl) (Nat.le_of_ble_eq_true rfl) (by omega) (c_ib _ _) (fun h_59 x_59 q_59 => ?_)
          obtain ⟨e_59, f_59⟩ := q_59
          rw [e_59, f_59]
          refine ex_if_eq (pc := 62) (tgt := 81) dX6_set_62 (by decide) (fun c_62 => ?_) (fun c_62 => ?_)
          · skip
            have b_62 := bF c_62
            refine ex_ldc (pc := 81) dX6_set_81 cn_X6_73 ?_
            refine ex_ret dX6_set_83 rfl ?_
            have e1 : (nSet s n (nI p0) wh v) = s := by simp [nSet, aSet, okSet, b_5, b_32, b_62, i_p, c_24, c_53, show ¬ nI 2 = nI 3 by decide, show ¬ nI 3 = nI 2 by decide]
            rw [e1]
            refine qi_mk ⟨⟨hC, FrX.rf⟩, ?_⟩
            simp [nSet, aSet, okSet, b_5, b_32, b_62, i_p, c_24, c_53, show ¬ nI 2 = nI 3 by decide, show ¬ nI 3 = nI 2 by decide]
          · skip
            have b_62 := bT c_62
            refine ex_aload (pc := 65) dX6_set_65 rfl ?_
            refine ex_get (pc := 67) dX6_set_67 fl_X6_103 (hR.2.2.2.2.1 p0 hp0) rfl ?_
            refine sx_istore (pc := 70) dX6_set_70 rfl (by decide) ?_
            show Ex _ _ _ _ _ _ [_, _, _, _, _, _] _ _ _
            refine ex_aload (pc := 72) dX6_set_72 rfl ?_
            refine ex_iload_n (pc := 74) dX6_set_74 rfl ?_
            refine ex_put (pc := 75) dX6_set_75 fp_X6_103 (hR.2.2.2.2.1 p0 hp0) (Nat.le_of_ble_eq_true rfl) rfl rfl ?_
            rw [ps_3]
            refine ex_iload (pc := 78) dX6_set_78 rfl ?_
            refine ex_ret dX6_set_80 rfl ?_
            obtain ⟨v0, hv0, rfl⟩ := bw_ex b_62
            subst c_53
            have i_w : ixI (nI 3) = 3 := by decide
            have e1 : (nSet s n (nI p0) (nI 3) (nI v0)) = upd s (10 + 4 * p0 + 3) (nI v0) := by simp [nSet, aSet, okSet, b_5, b_32, b_62, i_p, i_w, show ¬ nI 2 = nI 3 by decide, show ¬ nI 3 = nI 2 by decide]
            rw [e1]
            refine qi_mk ⟨cr_pst hC _ hp0 (by omega) hP.trd, ?_⟩
            simp [nSet, aSet, okSet, b_5, b_32, b_62, i_p, i_w, show ¬ nI 2 = nI 3 by decide, show ¬ nI 3 = nI 2 by decide]
      · skip
        have b_32 := bT c_32
        refine ex_aload (pc := 35) dX6_set_35 rfl ?_
        refine ex_get (pc := 37) dX6_set_37 fl_X6_100 (hR.2.2.2.2.1 p0 hp0) rfl ?_
        refine sx_istore (pc := 40) dX6_set_40 rfl (by decide) ?_
        show Ex _ _ _ _ _ _ [_, _, _, _, _, _] _ _ _
        refine ex_aload (pc := 42) dX6_set_42 rfl ?_
        refine ex_iload_n (pc := 44) dX6_set_44 rfl ?_
        refine ex_put (pc := 45) dX6_set_45 fp_X6_100 (hR.2.2.2.2.1 p0 hp0) (Nat.le_of_ble_eq_true rfl) rfl rfl ?_
        rw [ps_2]
        refine ex_iload (pc := 48) dX6_set_48 rfl ?_
        refine ex_ret dX6_set_50 rfl ?_
        obtain ⟨v0, hv0, rfl⟩ := bw_ex b_32
        subst c_24
        have i_w : ixI (nI 2) = 2 := by decide
        have e1 : (nSet s n (nI p0) (nI 2) (nI v0)) = upd s (10 + 4 * p0 + 2) (nI v0) := by simp [nSet, aSet, okSet, b_5, b_32, i_p, i_w, show ¬ nI 2 = nI 3 by decide, show ¬ nI 3 = nI 2 by decide]
        rw [e1]
        refine qi_mk ⟨cr_pst hC _ hp0 (by omega) (hP.pst (by omega) hv0 rfl), ?_⟩
        simp [nSet, aSet, okSet, b_5, b_32, i_p, i_w, show ¬ nI 2 = nI 3 by decide, show ¬ nI 3 = nI 2 by decide]
  · skip
    have b_5 := bF c_5
    refine ex_ldc (pc := 8) dX6_set_8 cn_X6_73 ?_
    refine ex_ret dX6_set_10 rfl ?_
    have e1 : (nSet s n p wh v) = s := by simp [nSet, aSet, okSet, b_5]
    rw [e1]
    refine qi_mk ⟨⟨hC, FrX.rf⟩, ?_⟩
    simp [nSet, aSet, okSet, b_5]
set_option maxHeartbeats 4000000 in
set_option maxRecDepth 100000 in
theorem c_M_set {g : Gl} {d ks : Nat} {h : AH} {z s : Nat → Int32} {n nt : Nat} (hR : MR g h z s n nt) (hd : 2 ≤ d) (p wh v : Int32) : Ex g mX7_set d 0 ks 0 [some (.ref (g.1 + 75)), some (.int p), some (.int wh), some (.int v)] [] h (qi (fun h' r => (MR g h' z (nSet s n p wh v) n nt ∧ FrX mX g h h') ∧ r = (aSet s n p wh v))) := by
  have hM := hR.1
  have hP := hR.2.1
  have hn8 := hP.2.1
  have hN := hP.1
  refine ex_aload_n (pc := 0) dX7_set_0 rfl ?_
  refine ex_iload_n (pc := 1) dX7_set_1 rfl ?_
  refine cx_VL1i (pc := 2) dX7_set_2 lk_X7_171 hM.1 rfl (Nat.le_of_ble_eq_true rfl) (Nat.le_of_ble_eq_true rfl) (by omega) (c_M_isp hM hN hn8 (by omega) _) (fun h_2 x_2 q_2 => ?_)
  obtain ⟨e_2, f_2⟩ := q_2
  rw [e_2, f_2]
  refine ex_if_eq (pc := 5) (tgt := 45) dX7_set_5 (by decide) (fun c_5 => ?_) (fun c_5 => ?_)
  · skip
    have b_5 := bF c_5
    refine ex_ldc (pc := 45) dX7_set_45 cn_X7_161 ?_
    refine ex_ret dX7_set_47 rfl ?_
    have e1 : (nSet s n p wh v) = s := by simp [nSet, aSet, okSet, b_5]
    rw [e1]
    refine qi_mk ⟨⟨hR, FrX.rf⟩, ?_⟩
    simp [nSet, aSet, okSet, b_5]
  · skip
    have b_5 := bT c_5
    refine ex_iload_n (pc := 8) dX7_set_8 rfl ?_
    refine ex_i2l (pc := 9) dX7_set_9 ?_
    refine ex_ldc2_w (pc := 10) dX7_set_10 cn_X7_191 ?_
    refine ex_ldc2_w (pc := 13) dX7_set_13 cn_X7_159 ?_
    refine cx_SL3i (pc := 16) dX7_set_16 lk_X7_69 rfl (Nat.le_of_ble_eq_true rfl) (Nat.le_of_ble_eq_true rfl) (by omega) (c_M_inq _ (a := 2) (b := 3) (by decide) (by decide)) (fun h_16 x_16 q_16 => ?_)
    obtain ⟨e_16, f_16⟩ := q_16
    rw [e_16, f_16]
    refine ex_if_eq (pc := 19) (tgt := 45) dX7_set_19 (by decide) (fun c_19 => ?_) (fun c_19 => ?_)
    · skip
      have b_19 := bF c_19
      refine ex_ldc (pc := 45) dX7_set_45 cn_X7_161 ?_
      refine ex_ret dX7_set_47 rfl ?_
      have hw : ¬ wh = nI 2 ∧ ¬ wh = nI 3 := ⟨fun e => by subst e; exact absurd b_19 (by decide), fun e => by subst e; exact absurd b_19 (by decide)⟩
      have e1 : (nSet s n p wh v) = s := by simp [nSet, aSet, okSet, b_5, b_19, hw.1, hw.2]
      rw [e1]
      refine qi_mk ⟨⟨hR, FrX.rf⟩, ?_⟩
      simp [nSet, aSet, okSet, b_5, b_19, hw.1, hw.2]
    · skip
      have b_19 := bT c_19
      refine ex_iload_n (pc := 22) dX7_set_22 rfl ?_
      refine ex_i2l (pc := 23) dX7_set_23 ?_
      refine ex_lconst (pc := 24) (v := 0) dX7_set_24 (by decide) ?_
      refine ex_iload_n (pc := 25) dX7_set_25 rfl ?_
      refine ex_iconst (pc := 26) (v := (nI 2)) dX7_set_26 (by decide) ?_
      refine ex_icmp_ne (pc := 27) (tgt := 36) dX7_set_27 (by decide) (fun c_27 => ?_) (fun c_27 => ?_)
      · skip
        refine ex_ldc2_w (pc := 36) dX7_set_36 cn_X7_193 ?_
        refine cx_SL3i (pc := 39) dX7_set_39 lk_X7_69 rfl (Nat.le_of_ble_eq_true rfl) (Nat.le_of_ble_eq_true rfl) (by omega) (c_M_in _ (m := 100) (by decide)) (fun h_39 x_39 q_39 => ?_)
        obtain ⟨e_39, f_39⟩ := q_39
        rw [e_39, f_39]
        refine ex_if_ne (pc := 42) (tgt := 48) dX7_set_42 (by decide) (fun c_42 => ?_) (fun c_42 => ?_)
        · skip
          have b_42 := bT c_42
          obtain ⟨p0, hp0, rfl⟩ := bw_ex b_5
          have i_p : ixI (nI p0) = p0 := iK (by omega)
          obtain ⟨q, hq1, hq2, hq3⟩ := bq_ex b_19
          have hw : wh = nI 2 ∨ wh = nI 3 := by
            rcases (show q = 2 ∨ q = 3 by omega) with e | e
            · subst e; exact Or.inl hq3
            · subst e; exact Or.inr hq3
          clear hq3
          replace hw : wh = nI 3 := hw.resolve_left c_27
          obtain ⟨v0, hv0, rfl⟩ := bw_ex b_42
          subst hw
          have i_w : ixI (nI 2) = 2 := by decide
          have i_w3 : ixI (nI 3) = 3 := by decide
          refine ex_aload_n (pc := 48) dX7_set_48 rfl ?_
          refine ex_bipush (pc := 49) (v := (nI 10)) dX7_set_49 (by decide) ?_
          refine ex_iconst (pc := 51) (v := (nI 4)) dX7_set_51 (by decide) ?_
          refine ex_iload_n (pc := 52) dX7_set_52 rfl ?_
          refine ex_imul (pc := 53) dX7_set_53 ?_
          refine ex_iadd (pc := 54) dX7_set_54 ?_
          refine ex_iload_n (pc := 55) dX7_set_55 rfl ?_
          refine ex_iadd (pc := 56) dX7_set_56 ?_
          refine ex_iload_n (pc := 57) dX7_set_57 rfl ?_
          rw [nI_mul, nI_add, nI_add]
          refine cx_VL2i (pc := 58) dX7_set_58 lk_X7_188 hM.1 rfl (Nat.le_of_ble_eq_true rfl) (Nat.le_of_ble_eq_true rfl) (by omega) (c_M_changes hM (k := 10 + 4 * p0 + 3) (by omega) _) (fun h_58 x_58 q_58 => ?_)
          obtain ⟨e_58, f_58⟩ := q_58
          rw [f_58]
          refine ex_ret dX7_set_61 rfl ?_
          have e1 : (nSet s n (nI p0) (nI 3) (nI v0)) = upd s (10 + 4 * p0 + 3) (nI v0) := by simp [nSet, aSet, okSet, b_5, b_19, b_42, i_p, i_w, i_w3, show ¬ nI 2 = nI 3 by decide, show ¬ nI 3 = nI 2 by decide]
          rw [e1]
          refine qi_mk ⟨by rw [e_58]; exact mr_st hR (lowE.up (by omega) (by omega)) hP.trd, ?_⟩
          simp [nSet, aSet, okSet, b_5, b_19, b_42, i_p, i_w, i_w3, show ¬ nI 2 = nI 3 by decide, show ¬ nI 3 = nI 2 by decide]
        · skip
          have b_42 := bF c_42
          refine ex_ldc (pc := 45) dX7_set_45 cn_X7_161 ?_
          refine ex_ret dX7_set_47 rfl ?_
          obtain ⟨q, hq1, hq2, hq3⟩ := bq_ex b_19
          have hw : wh = nI 2 ∨ wh = nI 3 := by
            rcases (show q = 2 ∨ q = 3 by omega) with e | e
            · subst e; exact Or.inl hq3
            · subst e; exact Or.inr hq3
          clear hq3
          replace hw : wh = nI 3 := hw.resolve_left c_27
          subst hw
          have e1 : (nSet s n p (nI 3) v) = s := by simp [nSet, aSet, okSet, b_5, b_19, b_42, show ¬ nI 2 = nI 3 by decide, show ¬ nI 3 = nI 2 by decide]
          rw [e1]
          refine qi_mk ⟨⟨hR, FrX.rf⟩, ?_⟩
          simp [nSet, aSet, okSet, b_5, b_19, b_42, show ¬ nI 2 = nI 3 by decide, show ¬ nI 3 = nI 2 by decide]
      · skip
        refine ex_ldc2_w (pc := 30) dX7_set_30 cn_X7_159 ?_
        refine ex_goto (pc := 33) (tgt := 39) dX7_set_33 (by decide) ?_
        refine cx_SL3i (pc := 39) dX7_set_39 lk_X7_69 rfl (Nat.le_of_ble_eq_true rfl) (Nat.le_of_ble_eq_true rfl) (by omega) (c_M_in _ (m := 4) (by decide)) (fun h_39 x_39 q_39 => ?_)
        obtain ⟨e_39, f_39⟩ := q_39
        rw [e_39, f_39]
        refine ex_if_ne (pc := 42) (tgt := 48) dX7_set_42 (by decide) (fun c_42 => ?_) (fun c_42 => ?_)
        · skip
          have b_42 := bT c_42
          obtain ⟨p0, hp0, rfl⟩ := bw_ex b_5
          have i_p : ixI (nI p0) = p0 := iK (by omega)
          obtain ⟨q, hq1, hq2, hq3⟩ := bq_ex b_19
          have hw : wh = nI 2 ∨ wh = nI 3 := by
            rcases (show q = 2 ∨ q = 3 by omega) with e | e
            · subst e; exact Or.inl hq3
            · subst e; exact Or.inr hq3
          clear hq3
          replace hw : wh = nI 2 := c_27
          obtain ⟨v0, hv0, rfl⟩ := bw_ex b_42
          subst hw
          have i_w : ixI (nI 2) = 2 := by decide
          have i_w3 : ixI (nI 3) = 3 := by decide
          refine ex_aload_n (pc := 48) dX7_set_48 rfl ?_
          refine ex_bipush (pc := 49) (v := (nI 10)) dX7_set_49 (by decide) ?_
          refine ex_iconst (pc := 51) (v := (nI 4)) dX7_set_51 (by decide) ?_
          refine ex_iload_n (pc := 52) dX7_set_52 rfl ?_
          refine ex_imul (pc := 53) dX7_set_53 ?_
          refine ex_iadd (pc := 54) dX7_set_54 ?_
          refine ex_iload_n (pc := 55) dX7_set_55 rfl ?_
          refine ex_iadd (pc := 56) dX7_set_56 ?_
          refine ex_iload_n (pc := 57) dX7_set_57 rfl ?_
          rw [nI_mul, nI_add, nI_add]
          refine cx_VL2i (pc := 58) dX7_set_58 lk_X7_188 hM.1 rfl (Nat.le_of_ble_eq_true rfl) (Nat.le_of_ble_eq_true rfl) (by omega) (c_M_changes hM (k := 10 + 4 * p0 + 2) (by omega) _) (fun h_58 x_58 q_58 => ?_)
          obtain ⟨e_58, f_58⟩ := q_58
          rw [f_58]
          refine ex_ret dX7_set_61 rfl ?_
          have e1 : (nSet s n (nI p0) (nI 2) (nI v0)) = upd s (10 + 4 * p0 + 2) (nI v0) := by simp [nSet, aSet, okSet, b_5, b_19, b_42, i_p, i_w, i_w3, show ¬ nI 2 = nI 3 by decide, show ¬ nI 3 = nI 2 by decide]
          rw [e1]
          refine qi_mk ⟨by rw [e_58]; exact mr_st hR (lowE.up (by omega) (by omega)) (hP.pst (by omega) hv0 rfl), ?_⟩
          simp [nSet, aSet, okSet, b_5, b_19, b_42, i_p, i_w, i_w3, show ¬ nI 2 = nI 3 by decide, show ¬ nI 3 = nI 2 by decide]
        · skip
          have b_42 := bF c_42
          refine ex_ldc (pc := 45) dX7_set_45 cn_X7_161 ?_
          refine ex_ret dX7_set_47 rfl ?_
          subst c_27
          have e1 : (nSet s n p (nI 2) v) = s := by simp [nSet, aSet, okSet, b_5, b_19, b_42, show ¬ nI 2 = nI 3 by decide, show ¬ nI 3 = nI 2 by decide]
          rw [e1]
          refine qi_mk ⟨⟨hR, FrX.rf⟩, ?_⟩
          simp [nSet, aSet, okSet, b_5, b_19, b_42, show ¬ nI 2 = nI 3 by decide, show ¬ nI 3 = nI 2 by decide]

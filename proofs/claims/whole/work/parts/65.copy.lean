/-! cells are read off a sheet; a piece of a sheet is copied -/
def rdF (s : Nat → Int32) (n : Nat) (f : Nat → Int32) (k : Nat) : Bool := !(decide (f k = -1000000005)) && !(decide (k < n ∧ s (10 + 4 * k + 1) = f k))
theorem fst_c {f f' : Nat → Bool} : ∀ (m c : Nat), (∀ j, c ≤ j → j < c + m → f j = f' j) → fstB f m c = fstB f' m c := by
  intro m
  induction m with
  | zero => intro c _; rfl
  | succ m ih => intro c h; rw [fstB, fstB, ih (c + 1) (fun j a b => h j (by omega) (by omega)), h c (Nat.le_refl _) (by omega)]
theorem rd_c {s f f' : Nat → Int32} {n sz : Nat} (h : ∀ j, j < sz → f j = f' j) : fstB (rdF s n f) sz 0 = fstB (rdF s n f') sz 0 := fst_c sz 0 (fun j _ hj => by unfold rdF; rw [h j (by omega)])
def aReads (s : Nat → Int32) (n : Nat) (S : Sht) (sh : Int32) : Int32 := if bw sh 4 then (if S.1 (ixI sh) = -1 then -1000000011 else oN (-1000000005) (fstB (rdF s n (S.2.2 (ixI sh))) (S.2.1 (ixI sh)) 0)) else -1000000001
set_option maxHeartbeats 4000000 in
set_option maxRecDepth 100000 in
theorem c_W_reads_l {g : Gl} {d ks : Nat} {h : AH} {ik wc : Int32} {s : Nat → Int32} {n i sz : Nat} {so : Int32} {cf : Nat → Int32} (hW : h[0]? = some (wtC g ik wc)) (hR : RoomB g h 1 s n) (hi : i < 4) (hsz : sz ≤ 24) (hs1 : h[47 + 2 * i]? = some (shC g (48 + 2 * i) so (nI sz))) (hs2 : h[48 + 2 * i]? = some (ia g 24 cf)) (hd : 2 ≤ d) : ∀ (m k : Nat) (l : Option Value), k + m = sz → Ex g mX6_reads d 0 ks 30 [some (.ref (g.1 + 0)), some (.int (nI i)), some (.ref (g.1 + (47 + 2 * i))), some (.int (nI (k))), l] [] h (qi (fun h' r => h' = h ∧ r = oN (-1000000005) (fstB (rdF s n cf) m k))) := by
  have hn8 := hR.2.2.1
  obtain ⟨fp, hfp, hfp2⟩ := hR.2.2.2.1
  intro m
  induction m with
  | zero =>
    intro k l hk
    refine ex_iload_n (pc := 30) dX6_reads_30 rfl ?_
    refine ex_aload_n (pc := 31) dX6_reads_31 rfl ?_
    refine ex_get (pc := 32) dX6_reads_32 fl_X6_285 hs1 rfl ?_
    refine bx_icmp_ge_t (pc := 35) (tgt := 98) dX6_reads_35 (by decide) (by rw [show k = sz by omega]; exact Int32.le_refl _) ?_
    refine ex_ldc (pc := 98) dX6_reads_98 cn_X6_142 ?_
    refine ex_ret dX6_reads_100 rfl ?_
    exact qi_mk ⟨rfl, rfl⟩
  | succ m ih =>
    intro k l hk
    refine ex_iload_n (pc := 30) dX6_reads_30 rfl ?_
    refine ex_aload_n (pc := 31) dX6_reads_31 rfl ?_
    refine ex_get (pc := 32) dX6_reads_32 fl_X6_285 hs1 rfl ?_
    refine bx_icmp_ge_f (pc := 35) (tgt := 98) dX6_reads_35 (by decide) (nI_ge (by omega) (by omega)) ?_
    refine ex_iload_n (pc := 38) dX6_reads_38 rfl ?_
    refine ex_aload_n (pc := 39) dX6_reads_39 rfl ?_
    refine ex_get (pc := 40) dX6_reads_40 fl_X6_10 hW rfl ?_
    refine ex_get (pc := 43) dX6_reads_43 fl_X6_79 hR.1 rfl ?_
    refine ex_icmp_ge (pc := 46) (tgt := 74) dX6_reads_46 (by decide) (fun c_46 => ?_) (fun c_46 => ?_)
    · skip
      refine ex_iconst (pc := 74) (v := (nI 0)) dX6_reads_74 (by decide) ?_
      refine sx_istore (pc := 75) dX6_reads_75 rfl (by decide) ?_
      show Ex _ _ _ _ _ _ [_, _, _, _, _] _ _ _
      refine ex_aload_n (pc := 77) dX6_reads_77 rfl ?_
      refine ex_iload_n (pc := 78) dX6_reads_78 rfl ?_
      refine cx_VL1i (pc := 79) dX6_reads_79 lk_X6_300 hs1 rfl (Nat.le_of_ble_eq_true rfl) (Nat.le_of_ble_eq_true rfl) (by omega) (c_S_hasNumber hs1 hs2 hsz (by omega) (show k < 24 by omega)) (fun h_79 x_79 q_79 => ?_)
      obtain ⟨e_79, f_79⟩ := q_79
      rw [e_79, f_79]
      refine ex_if_eq (pc := 82) (tgt := 92) dX6_reads_82 (by decide) (fun c_82 => ?_) (fun c_82 => ?_)
      · skip
        first | refine sx_inc (pc := 92) dX6_reads_92 rfl rfl (by decide) ?_ | refine sx_iinc (pc := 92) dX6_reads_92 rfl rfl (by decide) ?_
        show Ex _ _ _ _ _ _ [_, _, _, _, _] _ _ _
        refine ex_goto (pc := 95) (tgt := 30) dX6_reads_95 (by decide) ?_
        have kc : ¬ (k < n ∧ s (10 + 4 * k + 1) = cf k) := fun q => absurd c_46 (by rw [hR.2.1]; exact nI_ge q.1 (by omega))
        have kn : cf k = -1000000005 := Decidable.not_not.mp (fun q => (bI_0.mp c_82) ⟨by omega, q⟩)
        have e2 : fstB (rdF s n cf) (m + 1) k = fstB (rdF s n cf) m (k + 1) := by rw [fstB, if_neg (by simp [rdF, kc, kn])]
        refine (ih (k + 1) _ (by omega)).mono (fun h' r a => ?_)
        obtain ⟨x, e, a1, a2⟩ := a
        exact ⟨x, e, a1, by rw [a2, e2]⟩
      · skip
        refine ex_iload (pc := 85) dX6_reads_85 rfl ?_
        refine bx_if_ne_f (pc := 87) (tgt := 92) dX6_reads_87 (by decide) (rfl) ?_
        refine ex_iload_n (pc := 90) dX6_reads_90 rfl ?_
        refine ex_ret dX6_reads_91 rfl ?_
        have kc : ¬ (k < n ∧ s (10 + 4 * k + 1) = cf k) := fun q => absurd c_46 (by rw [hR.2.1]; exact nI_ge q.1 (by omega))
        have kn : ¬ cf k = -1000000005 := (Decidable.not_not.mp (fun q => c_82 (bI_f q))).2
        refine qi_mk ⟨rfl, ?_⟩
        rw [fstB, if_pos (by simp [rdF, kc, kn])]
        rfl
    · skip
      refine ex_aload_n (pc := 49) dX6_reads_49 rfl ?_
      refine ex_get (pc := 50) dX6_reads_50 fl_X6_10 hW rfl ?_
      refine ex_get (pc := 53) dX6_reads_53 fl_X6_90 hR.1 rfl ?_
      refine ex_iload_n (pc := 56) dX6_reads_56 rfl ?_
      refine ex_aldn (k := k) (v := .ref (g.1 + (1 + 4 + k))) (pc := 57) dX6_reads_57 rfl hfp rfl (show k < 8 from Nat.lt_of_lt_of_le (Nat.not_le.mp (fun q => c_46 (by rw [hR.2.1]; exact nI_le q (by omega)))) hn8) (by decide) (congrArg va_rf (hfp2 k (Nat.lt_of_lt_of_le (Nat.not_le.mp (fun q => c_46 (by rw [hR.2.1]; exact nI_le q (by omega)))) hn8))) ?_
      refine ex_get (pc := 58) dX6_reads_58 fl_X6_97 (hR.2.2.2.2.1 k (Nat.not_le.mp (fun q => c_46 (by rw [hR.2.1]; exact nI_le q (by omega))))) rfl ?_
      refine ex_aload_n (pc := 61) dX6_reads_61 rfl ?_
      refine ex_get (pc := 62) dX6_reads_62 fl_X6_292 hs1 rfl ?_
      refine ex_iload_n (pc := 65) dX6_reads_65 rfl ?_
      refine ex_ildn (k := k) (pc := 66) dX6_reads_66 hs2 rfl (by omega) (by decide) ?_
      refine ex_icmp_ne (pc := 67) (tgt := 74) dX6_reads_67 (by decide) (fun c_67 => ?_) (fun c_67 => ?_)
      · skip
        refine ex_iconst (pc := 74) (v := (nI 0)) dX6_reads_74 (by decide) ?_
        refine sx_istore (pc := 75) dX6_reads_75 rfl (by decide) ?_
        show Ex _ _ _ _ _ _ [_, _, _, _, _] _ _ _
        refine ex_aload_n (pc := 77) dX6_reads_77 rfl ?_
        refine ex_iload_n (pc := 78) dX6_reads_78 rfl ?_
        refine cx_VL1i (pc := 79) dX6_reads_79 lk_X6_300 hs1 rfl (Nat.le_of_ble_eq_true rfl) (Nat.le_of_ble_eq_true rfl) (by omega) (c_S_hasNumber hs1 hs2 hsz (by omega) (show k < 24 by omega)) (fun h_79 x_79 q_79 => ?_)
        obtain ⟨e_79, f_79⟩ := q_79
        rw [e_79, f_79]
        refine ex_if_eq (pc := 82) (tgt := 92) dX6_reads_82 (by decide) (fun c_82 => ?_) (fun c_82 => ?_)
        · skip
          first | refine sx_inc (pc := 92) dX6_reads_92 rfl rfl (by decide) ?_ | refine sx_iinc (pc := 92) dX6_reads_92 rfl rfl (by decide) ?_
          show Ex _ _ _ _ _ _ [_, _, _, _, _] _ _ _
          refine ex_goto (pc := 95) (tgt := 30) dX6_reads_95 (by decide) ?_
          have kc : ¬ (k < n ∧ s (10 + 4 * k + 1) = cf k) := fun q => c_67 q.2
          have kn : cf k = -1000000005 := Decidable.not_not.mp (fun q => (bI_0.mp c_82) ⟨by omega, q⟩)
          have e2 : fstB (rdF s n cf) (m + 1) k = fstB (rdF s n cf) m (k + 1) := by rw [fstB, if_neg (by simp [rdF, kc, kn])]
          refine (ih (k + 1) _ (by omega)).mono (fun h' r a => ?_)
          obtain ⟨x, e, a1, a2⟩ := a
          exact ⟨x, e, a1, by rw [a2, e2]⟩
        · skip
          refine ex_iload (pc := 85) dX6_reads_85 rfl ?_
          refine bx_if_ne_f (pc := 87) (tgt := 92) dX6_reads_87 (by decide) (rfl) ?_
          refine ex_iload_n (pc := 90) dX6_reads_90 rfl ?_
          refine ex_ret dX6_reads_91 rfl ?_
          have kc : ¬ (k < n ∧ s (10 + 4 * k + 1) = cf k) := fun q => c_67 q.2
          have kn : ¬ cf k = -1000000005 := (Decidable.not_not.mp (fun q => c_82 (bI_f q))).2
          refine qi_mk ⟨rfl, ?_⟩
          rw [fstB, if_pos (by simp [rdF, kc, kn])]
          rfl
      · skip
        refine ex_iconst (pc := 70) (v := (nI 1)) dX6_reads_70 (by decide) ?_
        refine ex_goto (pc := 71) (tgt := 75) dX6_reads_71 (by decide) ?_
        refine sx_istore (pc := 75) dX6_reads_75 rfl (by decide) ?_
        show Ex _ _ _ _ _ _ [_, _, _, _, _] _ _ _
        refine ex_aload_n (pc := 77) dX6_reads_77 rfl ?_
        refine ex_iload_n (pc := 78) dX6_reads_78 rfl ?_
        refine cx_VL1i (pc := 79) dX6_reads_79 lk_X6_300 hs1 rfl (Nat.le_of_ble_eq_true rfl) (Nat.le_of_ble_eq_true rfl) (by omega) (c_S_hasNumber hs1 hs2 hsz (by omega) (show k < 24 by omega)) (fun h_79 x_79 q_79 => ?_)
        obtain ⟨e_79, f_79⟩ := q_79
        rw [e_79, f_79]
        refine ex_if_eq (pc := 82) (tgt := 92) dX6_reads_82 (by decide) (fun c_82 => ?_) (fun c_82 => ?_)
        · skip
          first | refine sx_inc (pc := 92) dX6_reads_92 rfl rfl (by decide) ?_ | refine sx_iinc (pc := 92) dX6_reads_92 rfl rfl (by decide) ?_
          show Ex _ _ _ _ _ _ [_, _, _, _, _] _ _ _
          refine ex_goto (pc := 95) (tgt := 30) dX6_reads_95 (by decide) ?_
          have kc : k < n ∧ s (10 + 4 * k + 1) = cf k := ⟨Nat.not_le.mp (fun q => c_46 (by rw [hR.2.1]; exact nI_le q (by omega))), c_67⟩
          have kn : cf k = -1000000005 := Decidable.not_not.mp (fun q => (bI_0.mp c_82) ⟨by omega, q⟩)
          have e2 : fstB (rdF s n cf) (m + 1) k = fstB (rdF s n cf) m (k + 1) := by rw [fstB, if_neg (by simp [rdF, kc, kn])]
          refine (ih (k + 1) _ (by omega)).mono (fun h' r a => ?_)
          obtain ⟨x, e, a1, a2⟩ := a
          exact ⟨x, e, a1, by rw [a2, e2]⟩
        · skip
          refine ex_iload (pc := 85) dX6_reads_85 rfl ?_
          refine bx_if_ne_t (pc := 87) (tgt := 92) dX6_reads_87 (by decide) (by decide) ?_
          first | refine sx_inc (pc := 92) dX6_reads_92 rfl rfl (by decide) ?_ | refine sx_iinc (pc := 92) dX6_reads_92 rfl rfl (by decide) ?_
          show Ex _ _ _ _ _ _ [_, _, _, _, _] _ _ _
          refine ex_goto (pc := 95) (tgt := 30) dX6_reads_95 (by decide) ?_
          have kc : k < n ∧ s (10 + 4 * k + 1) = cf k := ⟨Nat.not_le.mp (fun q => c_46 (by rw [hR.2.1]; exact nI_le q (by omega))), c_67⟩
          have kn : ¬ cf k = -1000000005 := (Decidable.not_not.mp (fun q => c_82 (bI_f q))).2
          have e2 : fstB (rdF s n cf) (m + 1) k = fstB (rdF s n cf) m (k + 1) := by rw [fstB, if_neg (by simp [rdF, kc, kn])]
          refine (ih (k + 1) _ (by omega)).mono (fun h' r a => ?_)
          obtain ⟨x, e, a1, a2⟩ := a
          exact ⟨x, e, a1, by rw [a2, e2]⟩
set_option maxHeartbeats 4000000 in
set_option maxRecDepth 100000 in
theorem c_W_reads {g : Gl} {d ks : Nat} {h : AH} {ik wc : Int32} {s : Nat → Int32} {n nt : Nat} (hW : h[0]? = some (wtC g ik wc)) (hC : CR g h 1 s n nt) {S : Sht} (hS : ShtC g h S) (hO : SOk S) (hd : 2 ≤ d) (sh : Int32) : Ex g mX6_reads d 0 ks 0 [some (.ref (g.1 + 0)), some (.int sh), none, none, none] [] h (qi (fun h' r => h' = h ∧ r = aReads s n S sh)) := by
  have hR := hC.1
  have hP := hC.2.1
  have hn8 := hP.2.1
  have hN := hR.2.1
  obtain ⟨fp, hfp, hfp2⟩ := hR.2.2.2.1
  obtain ⟨⟨fs, hfs, hfs2⟩, hsk⟩ := hS
  refine ex_iload_n (pc := 0) dX6_reads_0 rfl ?_
  refine ex_iconst (pc := 1) (v := (nI 4)) dX6_reads_1 (by decide) ?_
  refine cx_SL2i (pc := 2) dX6_reads_2 lk_X6_69 rfl (Nat.le_of_ble_eq_true rfl) (Nat.le_of_ble_eq_true rfl) (by omega) (c_ib _ _) (fun h_2 x_2 q_2 => ?_)
  obtain ⟨e_2, f_2⟩ := q_2
  rw [e_2, f_2]
  refine ex_if_ne (pc := 5) (tgt := 11) dX6_reads_5 (by decide) (fun c_5 => ?_) (fun c_5 => ?_)
  · skip
    have b_5 := bT c_5
    obtain ⟨i, hi, rfl⟩ := bw_ex b_5
    have i_i : ixI (nI i) = i := iK (by omega)
    obtain ⟨hs1, cf, hs2, hs3⟩ := hsk i hi
    refine ex_aload_n (pc := 11) dX6_reads_11 rfl ?_
    refine ex_get (pc := 12) dX6_reads_12 fl_X6_50 hW rfl ?_
    refine ex_iload_n (pc := 15) dX6_reads_15 rfl ?_
    refine ex_aldn (k := i) (v := .ref (g.1 + (47 + 2 * i))) (pc := 16) dX6_reads_16 rfl hfs rfl (by omega) (by decide) (congrArg va_rf (hfs2 i (by omega))) ?_
    refine sx_astore_n (pc := 17) dX6_reads_17 rfl (by decide) ?_
    show Ex _ _ _ _ _ _ [_, _, _, _, _] _ _ _
    refine ex_aload_n (pc := 18) dX6_reads_18 rfl ?_
    refine cx_VL0i (pc := 19) dX6_reads_19 lk_X6_227 hs1 rfl (Nat.le_of_ble_eq_true rfl) (Nat.le_of_ble_eq_true rfl) (by omega) (c_S_isMissing hs1) (fun h_19 x_19 q_19 => ?_)
    obtain ⟨e_19, f_19⟩ := q_19
    rw [e_19, f_19]
    refine ex_if_eq (pc := 22) (tgt := 28) dX6_reads_22 (by decide) (fun c_22 => ?_) (fun c_22 => ?_)
    · skip
      have k1 : ¬ S.1 i = -1 := bI_0.mp c_22
      refine ex_iconst (pc := 28) (v := (nI 0)) dX6_reads_28 (by decide) ?_
      refine sx_istore_n (pc := 29) dX6_reads_29 rfl (by decide) ?_
      show Ex _ _ _ _ _ _ [_, _, _, _, _] _ _ _
      refine (c_W_reads_l hW hR hi (hO i hi).2.1 hs1 hs2 hd (S.2.1 i) 0 _ (by omega)).mono (fun h' r a => ?_)
      obtain ⟨x, e, a1, a2⟩ := a
      exact ⟨x, e, a1, by rw [a2, rd_c (fun j hj => hs3 j (by have := (hO i hi).2.1; omega))]; simp only [aReads, b_5, i_i, k1, Bool.and_self, Bool.and_true, Bool.true_and, Bool.and_false, Bool.false_and, Bool.or_true, Bool.true_or, Bool.or_false, Bool.false_or, Bool.not_true, Bool.not_false, Bool.false_eq_true, ↓reduceIte]⟩
    · skip
      have k1 : S.1 i = -1 := Decidable.not_not.mp (fun q => c_22 (bI_f q))
      refine ex_ldc (pc := 25) dX6_reads_25 cn_X6_230 ?_
      refine ex_ret dX6_reads_27 rfl ?_
      refine qi_mk ⟨rfl, ?_⟩
      simp [aReads, b_5, i_i, k1]
  · skip
    have b_5 := bF c_5
    refine ex_ldc (pc := 8) dX6_reads_8 cn_X6_73 ?_
    refine ex_ret dX6_reads_10 rfl ?_
    refine qi_mk ⟨rfl, ?_⟩
    simp [aReads, b_5]
set_option maxHeartbeats 4000000 in
set_option maxRecDepth 100000 in
theorem c_M_reads_l {g : Gl} {d ks : Nat} {h : AH} {z s : Nat → Int32} (hM : Ms g h z s) {n i sz : Nat} (hn : s 0 = nI n) (hn8 : n ≤ 8) {f80 f81 : Nat → Int32} (hi : i < 4) (hsz : sz ≤ 24) (h80 : h[80]? = some (ia g 4 f80)) (e80 : f80 i = nI sz) (h81 : h[81]? = some (ia g 96 f81)) (hd : 1 ≤ d) : ∀ (m k : Nat) (l : Option Value), k + m = sz → Ex g mX7_reads d 0 ks 25 [some (.ref (g.1 + 75)), some (.int (nI i)), some (.int (nI (k))), l] [] h (qi (fun h' r => h' = h ∧ r = oN (-1000000005) (fstB (rdF s n (fun j => f81 (24 * i + j))) m k))) := by
  intro m
  induction m with
  | zero =>
    intro k l hk
    refine ex_iload_n (pc := 25) dX7_reads_25 rfl ?_
    refine ex_aload_n (pc := 26) dX7_reads_26 rfl ?_
    refine ex_get (pc := 27) dX7_reads_27 fl_X7_22 hM.1 rfl ?_
    refine ex_iload_n (pc := 30) dX7_reads_30 rfl ?_
    refine ex_ildn (k := i) (pc := 31) dX7_reads_31 h80 rfl (by omega) (by decide) ?_
    rw [e80]
    refine bx_icmp_ge_t (pc := 32) (tgt := 81) dX7_reads_32 (by decide) (by rw [show k = sz by omega]; exact Int32.le_refl _) ?_
    refine ex_ldc (pc := 81) dX7_reads_81 cn_X7_68 ?_
    refine ex_ret dX7_reads_83 rfl ?_
    exact qi_mk ⟨rfl, rfl⟩
  | succ m ih =>
    intro k l hk
    refine ex_iload_n (pc := 25) dX7_reads_25 rfl ?_
    refine ex_aload_n (pc := 26) dX7_reads_26 rfl ?_
    refine ex_get (pc := 27) dX7_reads_27 fl_X7_22 hM.1 rfl ?_
    refine ex_iload_n (pc := 30) dX7_reads_30 rfl ?_
    refine ex_ildn (k := i) (pc := 31) dX7_reads_31 h80 rfl (by omega) (by decide) ?_
    rw [e80]
    refine bx_icmp_ge_f (pc := 32) (tgt := 81) dX7_reads_32 (by decide) (nI_ge (by omega) (by omega)) ?_
    refine ex_aload_n (pc := 35) dX7_reads_35 rfl ?_
    refine ex_get (pc := 36) dX7_reads_36 fl_X7_25 hM.1 rfl ?_
    refine ex_bipush (pc := 39) (v := (nI 24)) dX7_reads_39 (by decide) ?_
    refine ex_iload_n (pc := 41) dX7_reads_41 rfl ?_
    refine ex_imul (pc := 42) dX7_reads_42 ?_
    refine ex_iload_n (pc := 43) dX7_reads_43 rfl ?_
    refine ex_iadd (pc := 44) dX7_reads_44 ?_
    rw [nI_mul, nI_add]
    refine ex_ildn (k := 24 * i + k) (pc := 45) dX7_reads_45 h81 rfl (by omega) (by decide) ?_
    refine sx_istore_n (pc := 46) dX7_reads_46 rfl (by decide) ?_
    show Ex _ _ _ _ _ _ [_, _, _, _] _ _ _
    refine ex_iload_n (pc := 47) dX7_reads_47 rfl ?_
    refine ex_ldc (pc := 48) dX7_reads_48 cn_X7_68 ?_
    refine ex_icmp_eq (pc := 50) (tgt := 75) dX7_reads_50 (by decide) (fun c_50 => ?_) (fun c_50 => ?_)
    · skip
      first | refine sx_inc (pc := 75) dX7_reads_75 rfl rfl (by decide) ?_ | refine sx_iinc (pc := 75) dX7_reads_75 rfl rfl (by decide) ?_
      show Ex _ _ _ _ _ _ [_, _, _, _] _ _ _
      refine ex_goto (pc := 78) (tgt := 25) dX7_reads_78 (by decide) ?_
      have kk : rdF s n (fun j => f81 (24 * i + j)) k = false := by
        have q : f81 (24 * i + k) = -1000000005 := c_50
        simp [rdF, q]
      have e2 : fstB (rdF s n (fun j => f81 (24 * i + j))) (m + 1) k = fstB (rdF s n (fun j => f81 (24 * i + j))) m (k + 1) := by rw [fstB, if_neg (by rw [kk]; decide)]
      refine (ih (k + 1) _ (by omega)).mono (fun h' r a => ?_)
      obtain ⟨x, e, a1, a2⟩ := a
      exact ⟨x, e, a1, by rw [a2, e2]⟩
    · skip
      refine ex_iload_n (pc := 53) dX7_reads_53 rfl ?_
      refine ex_aload_n (pc := 54) dX7_reads_54 rfl ?_
      refine ex_get (pc := 55) dX7_reads_55 fl_X7_7 hM.1 rfl ?_
      refine ex_iconst (pc := 58) (v := (nI 0)) dX7_reads_58 (by decide) ?_
      refine ex_ildn (k := 0) (pc := 59) dX7_reads_59 hM.2 rfl (by decide) (by decide) ?_
      rw [hn]
      refine ex_icmp_ge (pc := 60) (tgt := 73) dX7_reads_60 (by decide) (fun c_60 => ?_) (fun c_60 => ?_)
      · skip
        refine ex_iload_n (pc := 73) dX7_reads_73 rfl ?_
        refine ex_ret dX7_reads_74 rfl ?_
        have q1 : ¬ f81 (24 * i + k) = -1000000005 := c_50
        have q2 : ¬ k < n := fun q => absurd c_60 (nI_ge q (by omega))
        refine qi_mk ⟨rfl, ?_⟩
        rw [fstB, if_pos (by simp [rdF, q1, q2])]
        rfl
      · skip
        refine ex_iload_n (pc := 63) dX7_reads_63 rfl ?_
        refine ex_aload_n (pc := 64) dX7_reads_64 rfl ?_
        refine ex_iload_n (pc := 65) dX7_reads_65 rfl ?_
        refine ex_iconst (pc := 66) (v := (nI 1)) dX7_reads_66 (by decide) ?_
        refine cx_VL2i (pc := 67) dX7_reads_67 lk_X7_76 hM.1 rfl (Nat.le_of_ble_eq_true rfl) (Nat.le_of_ble_eq_true rfl) (by omega) (c_M_of hM (k := k) (f := 1) (by omega)) (fun h_67 x_67 q_67 => ?_)
        obtain ⟨e_67, f_67⟩ := q_67
        rw [e_67, f_67]
        refine ex_icmp_eq (pc := 70) (tgt := 75) dX7_reads_70 (by decide) (fun c_70 => ?_) (fun c_70 => ?_)
        · skip
          first | refine sx_inc (pc := 75) dX7_reads_75 rfl rfl (by decide) ?_ | refine sx_iinc (pc := 75) dX7_reads_75 rfl rfl (by decide) ?_
          show Ex _ _ _ _ _ _ [_, _, _, _] _ _ _
          refine ex_goto (pc := 78) (tgt := 25) dX7_reads_78 (by decide) ?_
          have kk : rdF s n (fun j => f81 (24 * i + j)) k = false := by
            have q1 : ¬ f81 (24 * i + k) = -1000000005 := c_50
            have q2 : k < n := Nat.not_le.mp (fun q => c_60 (nI_le q (by omega)))
            have q3 : s (10 + 4 * k + 1) = f81 (24 * i + k) := c_70.symm
            simp [rdF, q1, q2, q3]
          have e2 : fstB (rdF s n (fun j => f81 (24 * i + j))) (m + 1) k = fstB (rdF s n (fun j => f81 (24 * i + j))) m (k + 1) := by rw [fstB, if_neg (by rw [kk]; decide)]
          refine (ih (k + 1) _ (by omega)).mono (fun h' r a => ?_)
          obtain ⟨x, e, a1, a2⟩ := a
          exact ⟨x, e, a1, by rw [a2, e2]⟩
        · skip
          refine ex_iload_n (pc := 73) dX7_reads_73 rfl ?_
          refine ex_ret dX7_reads_74 rfl ?_
          have q1 : ¬ f81 (24 * i + k) = -1000000005 := c_50
          have q2 : ¬ s (10 + 4 * k + 1) = f81 (24 * i + k) := fun q => c_70 q.symm
          refine qi_mk ⟨rfl, ?_⟩
          rw [fstB, if_pos (by simp [rdF, q1, q2])]
          rfl
set_option maxHeartbeats 4000000 in
set_option maxRecDepth 100000 in
theorem c_M_reads {g : Gl} {d ks : Nat} {h : AH} {z s : Nat → Int32} {n nt : Nat} (hR : MR g h z s n nt) {S : Sht} (hS : ShtM g h S) (hO : SOk S) (hd : 2 ≤ d) (sh : Int32) : Ex g mX7_reads d 0 ks 0 [some (.ref (g.1 + 75)), some (.int sh), none, none] [] h (qi (fun h' r => h' = h ∧ r = aReads s n S sh)) := by
  have hM := hR.1
  have hP := hR.2.1
  have hn8 := hP.2.1
  have hN := hP.1
  have hS0 := hS
  obtain ⟨⟨f79, h79, e79⟩, ⟨f80, h80, e80⟩, f81, h81, e81⟩ := hS
  refine ex_iload_n (pc := 0) dX7_reads_0 rfl ?_
  refine cx_SL1i (pc := 1) dX7_reads_1 lk_X7_369 rfl (Nat.le_of_ble_eq_true rfl) (Nat.le_of_ble_eq_true rfl) (by omega) (c_M_shB (by omega) _) (fun h_1 x_1 q_1 => ?_)
  obtain ⟨e_1, f_1⟩ := q_1
  rw [e_1, f_1]
  refine ex_if_ne (pc := 4) (tgt := 10) dX7_reads_4 (by decide) (fun c_4 => ?_) (fun c_4 => ?_)
  · skip
    have b_4 := bT c_4
    obtain ⟨i, hi, rfl⟩ := bw_ex b_4
    have i_i : ixI (nI i) = i := iK (by omega)
    refine ex_aload_n (pc := 10) dX7_reads_10 rfl ?_
    refine ex_get (pc := 11) dX7_reads_11 fl_X7_19 hM.1 rfl ?_
    refine ex_iload_n (pc := 14) dX7_reads_14 rfl ?_
    refine ex_ildn (k := i) (pc := 15) dX7_reads_15 h79 rfl (by omega) (by decide) ?_
    rw [e79 i hi]
    refine ex_if_ge (pc := 16) (tgt := 23) dX7_reads_16 (by decide) (fun c_16 => ?_) (fun c_16 => ?_)
    · skip
      have k1 : ¬ S.1 i = -1 := (so_ge hO hi).mp c_16
      refine ex_iconst (pc := 23) (v := (nI 0)) dX7_reads_23 (by decide) ?_
      refine sx_istore_n (pc := 24) dX7_reads_24 rfl (by decide) ?_
      show Ex _ _ _ _ _ _ [_, _, _, _] _ _ _
      refine (c_M_reads_l hM hN hn8 hi (hO i hi).2.1 h80 (e80 i hi) h81 (by omega) (S.2.1 i) 0 _ (by omega)).mono (fun h' r a => ?_)
      obtain ⟨x, e, a1, a2⟩ := a
      exact ⟨x, e, a1, by rw [a2, rd_c (f := (fun j => f81 (24 * i + j))) (f' := S.2.2 i) (fun j hj => e81 i hi j (by have := (hO i hi).2.1; omega))]; simp only [aReads, b_4, i_i, k1, Bool.and_self, Bool.and_true, Bool.true_and, Bool.and_false, Bool.false_and, Bool.or_true, Bool.true_or, Bool.or_false, Bool.false_or, Bool.not_true, Bool.not_false, Bool.false_eq_true, ↓reduceIte]⟩
    · skip
      have k1 : S.1 i = -1 := (so_neg hO hi).mp (Int32.not_le.mp c_16)
      refine ex_ldc_w (pc := 19) dX7_reads_19 cn_X7_373 ?_
      refine ex_ret dX7_reads_22 rfl ?_
      refine qi_mk ⟨rfl, ?_⟩
      simp [aReads, b_4, i_i, k1]
  · skip
    have b_4 := bF c_4
    refine ex_ldc (pc := 7) dX7_reads_7 cn_X7_161 ?_
    refine ex_ret dX7_reads_9 rfl ?_
    refine qi_mk ⟨rfl, ?_⟩
    simp [aReads, b_4]
def hpl (sz : Nat) (a m : Int32) : Bool := decide (0 ≤ a ∧ 0 ≤ m ∧ a ≤ nI sz ∧ m ≤ nI sz - a)
theorem hpl_t {sz a m : Nat} (h : a + m ≤ sz) (hs : sz ≤ 24) : hpl sz (nI a) (nI m) = true := decide_eq_true ⟨nI_pos' (by omega), nI_pos' (by omega), nI_le (by omega) (by omega), by rw [nI_sub (by omega)]; exact nI_le (by omega) (by omega)⟩
theorem hpl_ex {sz : Nat} {a m : Int32} (h : hpl sz a m = true) (hs : sz ≤ 24) : ∃ a' m', a = nI a' ∧ m = nI m' ∧ a' + m' ≤ sz := by
  obtain ⟨h1, h2, h3, h4⟩ := of_decide_eq_true h
  obtain ⟨a', ha, rfl⟩ := nI_of (Int32.not_lt.mpr h1)
  obtain ⟨m', hm, rfl⟩ := nI_of (Int32.not_lt.mpr h2)
  have q := (nI_leI ha (by omega)).mp h3
  rw [nI_sub q] at h4
  have q2 := (nI_leI hm (by omega)).mp h4
  exact ⟨a', m', rfl, rfl, by omega⟩
theorem hpl_f {sz a m : Nat} (ha : a < 2147483648) (hm : m < 2147483648) (h : ¬ a + m ≤ sz) (hs : sz ≤ 24) : hpl sz (nI a) (nI m) = false := by
  cases e : hpl sz (nI a) (nI m) with
  | false => rfl
  | true =>
    obtain ⟨a', m', e1, e2, e3⟩ := hpl_ex e hs
    have i1 := iK ha
    rw [e1, iK (by omega)] at i1
    have i2 := iK hm
    rw [e2, iK (by omega)] at i2
    omega
def okCp (S : Sht) (fr pl to a m : Int32) : Bool := (bw fr 4 && bw to 4) && ((!(decide (S.1 (ixI fr) = -1)) && !(decide (S.1 (ixI to) = -1))) && (decide (S.1 (ixI fr) = S.1 (ixI to)) && (hpl (S.2.1 (ixI fr)) pl m && hpl (S.2.1 (ixI to)) a m)))
def aCopy (S : Sht) (fr pl to a m : Int32) : Int32 := if bw fr 4 && bw to 4 then (if S.1 (ixI fr) = -1 ∨ S.1 (ixI to) = -1 then -1000000011 else if S.1 (ixI fr) = S.1 (ixI to) then (if hpl (S.2.1 (ixI fr)) pl m && hpl (S.2.1 (ixI to)) a m then m else -1000000013) else -1000000012) else -1000000001
def nCopy (S : Sht) (fr pl to a m : Int32) : Sht := if okCp S fr pl to a m then shW S (ixI to) (S.1 (ixI to)) (S.2.1 (ixI to)) (va_cpy (S.2.2 (ixI fr)) (S.2.2 (ixI to)) (ixI pl) (ixI a) (ixI m)) else S
set_option maxHeartbeats 4000000 in
set_option maxRecDepth 100000 in
theorem c_W_copy {g : Gl} {d ks : Nat} {h : AH} {ik wc : Int32} (hW : h[0]? = some (wtC g ik wc)) {S : Sht} (hS : ShtC g h S) (hO : SOk S) (hd : 1 ≤ d) (fr pl to a m : Int32) : Ex g mX6_copy d 0 ks 0 [some (.ref (g.1 + 0)), some (.int fr), some (.int pl), some (.int to), some (.int a), some (.int m), none, none] [] h (qi (fun h' r => (ShtC g h' (nCopy S fr pl to a m) ∧ FrX shX g h h') ∧ r = aCopy S fr pl to a m)) := by
  have hS0 := hS
  obtain ⟨⟨fs, hfs, hfs2⟩, hsk⟩ := hS
  refine ex_iload_n (pc := 0) dX6_copy_0 rfl ?_
  refine ex_iconst (pc := 1) (v := (nI 4)) dX6_copy_1 (by decide) ?_
  refine cx_SL2i (pc := 2) dX6_copy_2 lk_X6_69 rfl (Nat.le_of_ble_eq_true rfl) (Nat.le_of_ble_eq_true rfl) (by omega) (c_ib _ _) (fun h_2 x_2 q_2 => ?_)
  obtain ⟨e_2, f_2⟩ := q_2
  rw [e_2, f_2]
  refine ex_if_eq (pc := 5) (tgt := 16) dX6_copy_5 (by decide) (fun c_5 => ?_) (fun c_5 => ?_)
  · skip
    have b_5 := bF c_5
    refine ex_ldc (pc := 16) dX6_copy_16 cn_X6_73 ?_
    refine ex_ret dX6_copy_18 rfl ?_
    refine qi_mk ⟨?_, ?_⟩
    · have e1 : nCopy S fr pl to a m = S := by simp [nCopy, okCp, b_5]
      rw [e1]; exact ⟨hS0, FrX.rf⟩
    · simp [aCopy, b_5]
  · skip
    have b_5 := bT c_5
    refine ex_iload_n (pc := 8) dX6_copy_8 rfl ?_
    refine ex_iconst (pc := 9) (v := (nI 4)) dX6_copy_9 (by decide) ?_
    refine cx_SL2i (pc := 10) dX6_copy_10 lk_X6_69 rfl (Nat.le_of_ble_eq_true rfl) (Nat.le_of_ble_eq_true rfl) (by omega) (c_ib _ _) (fun h_10 x_10 q_10 => ?_)
    obtain ⟨e_10, f_10⟩ := q_10
    rw [e_10, f_10]
    refine ex_if_ne (pc := 13) (tgt := 19) dX6_copy_13 (by decide) (fun c_13 => ?_) (fun c_13 => ?_)
    · skip
      have b_13 := bT c_13
      obtain ⟨i, hi, rfl⟩ := bw_ex b_5
      have i_i : ixI (nI i) = i := iK (by omega)
      obtain ⟨t, ht, rfl⟩ := bw_ex b_13
      have i_t : ixI (nI t) = t := iK (by omega)
      obtain ⟨hs1, cf, hs2, hs3⟩ := hsk i hi
      obtain ⟨ht1, ct, ht2, ht3⟩ := hsk t ht
      refine ex_aload_n (pc := 19) dX6_copy_19 rfl ?_
      refine ex_get (pc := 20) dX6_copy_20 fl_X6_50 hW rfl ?_
      refine ex_iload_n (pc := 23) dX6_copy_23 rfl ?_
      refine ex_aldn (k := i) (v := .ref (g.1 + (47 + 2 * i))) (pc := 24) dX6_copy_24 rfl hfs rfl (by omega) (by decide) (congrArg va_rf (hfs2 i (by omega))) ?_
      refine sx_astore (pc := 25) dX6_copy_25 rfl (by decide) ?_
      show Ex _ _ _ _ _ _ [_, _, _, _, _, _, _, _] _ _ _
      refine ex_aload_n (pc := 27) dX6_copy_27 rfl ?_
      refine ex_get (pc := 28) dX6_copy_28 fl_X6_50 hW rfl ?_
      refine ex_iload_n (pc := 31) dX6_copy_31 rfl ?_
      refine ex_aldn (k := t) (v := .ref (g.1 + (47 + 2 * t))) (pc := 32) dX6_copy_32 rfl hfs rfl (by omega) (by decide) (congrArg va_rf (hfs2 t (by omega))) ?_
      refine sx_astore (pc := 33) dX6_copy_33 rfl (by decide) ?_
      show Ex _ _ _ _ _ _ [_, _, _, _, _, _, _, _] _ _ _
      refine ex_aload (pc := 35) dX6_copy_35 rfl ?_
      refine cx_VL0i (pc := 37) dX6_copy_37 lk_X6_227 hs1 rfl (Nat.le_of_ble_eq_true rfl) (Nat.le_of_ble_eq_true rfl) (by omega) (c_S_isMissing hs1) (fun h_37 x_37 q_37 => ?_)
      obtain ⟨e_37, f_37⟩ := q_37
      rw [e_37, f_37]
      refine ex_if_ne (pc := 40) (tgt := 51) dX6_copy_40 (by decide) (fun c_40 => ?_) (fun c_40 => ?_)
      · skip
        have k1 : S.1 i = -1 := Decidable.not_not.mp (fun q => c_40 (bI_f q))
        refine ex_ldc (pc := 51) dX6_copy_51 cn_X6_230 ?_
        refine ex_ret dX6_copy_53 rfl ?_
        refine qi_mk ⟨?_, ?_⟩
        · have e1 : nCopy S (nI i) pl (nI t) a m = S := by simp [nCopy, okCp, b_5, b_13, i_i, i_t, k1]
          rw [e1]; exact ⟨hS0, FrX.rf⟩
        · simp [aCopy, b_5, b_13, i_i, i_t, k1]
      · skip
        have k1 : ¬ S.1 i = -1 := bI_0.mp c_40
        refine ex_aload (pc := 43) dX6_copy_43 rfl ?_
        refine cx_VL0i (pc := 45) dX6_copy_45 lk_X6_227 ht1 rfl (Nat.le_of_ble_eq_true rfl) (Nat.le_of_ble_eq_true rfl) (by omega) (c_S_isMissing ht1) (fun h_45 x_45 q_45 => ?_)
        obtain ⟨e_45, f_45⟩ := q_45
        rw [e_45, f_45]
        refine ex_if_eq (pc := 48) (tgt := 54) dX6_copy_48 (by decide) (fun c_48 => ?_) (fun c_48 => ?_)
        · skip
          have k2 : ¬ S.1 t = -1 := bI_0.mp c_48
          refine ex_aload (pc := 54) dX6_copy_54 rfl ?_
          refine ex_get (pc := 56) dX6_copy_56 fl_X6_289 hs1 rfl ?_
          refine ex_aload (pc := 59) dX6_copy_59 rfl ?_
          refine ex_get (pc := 61) dX6_copy_61 fl_X6_289 ht1 rfl ?_
          refine ex_icmp_eq (pc := 64) (tgt := 70) dX6_copy_64 (by decide) (fun c_64 => ?_) (fun c_64 => ?_)
          · skip
            refine ex_aload (pc := 70) dX6_copy_70 rfl ?_
            refine ex_iload_n (pc := 72) dX6_copy_72 rfl ?_
            refine ex_iload (pc := 73) dX6_copy_73 rfl ?_
            refine cx_VL2i (pc := 75) dX6_copy_75 lk_X6_303 hs1 rfl (Nat.le_of_ble_eq_true rfl) (Nat.le_of_ble_eq_true rfl) (by omega) (c_S_hasPlaces hs1 _ _) (fun h_75 x_75 q_75 => ?_)
            obtain ⟨e_75, f_75⟩ := q_75
            rw [e_75, f_75]
            refine ex_if_eq (pc := 78) (tgt := 93) dX6_copy_78 (by decide) (fun c_78 => ?_) (fun c_78 => ?_)
            · skip
              have k4 : hpl (S.2.1 i) pl m = false := decide_eq_false (bI_0.mp c_78)
              refine ex_ldc_w (pc := 93) dX6_copy_93 cn_X6_288 ?_
              refine ex_ret dX6_copy_96 rfl ?_
              refine qi_mk ⟨?_, ?_⟩
              · have e1 : nCopy S (nI i) pl (nI t) a m = S := by simp [nCopy, okCp, b_5, b_13, i_i, i_t, k1, k2, c_64, k4]
                rw [e1]; exact ⟨hS0, FrX.rf⟩
              · simp [aCopy, b_5, b_13, i_i, i_t, k1, k2, c_64, k4]
            · skip
              have k4 : hpl (S.2.1 i) pl m = true := decide_eq_true (Decidable.not_not.mp (fun q => c_78 (bI_f q)))
              refine ex_aload (pc := 81) dX6_copy_81 rfl ?_
              refine ex_iload (pc := 83) dX6_copy_83 rfl ?_
              refine ex_iload (pc := 85) dX6_copy_85 rfl ?_
              refine cx_VL2i (pc := 87) dX6_copy_87 lk_X6_303 ht1 rfl (Nat.le_of_ble_eq_true rfl) (Nat.le_of_ble_eq_true rfl) (by omega) (c_S_hasPlaces ht1 _ _) (fun h_87 x_87 q_87 => ?_)
              obtain ⟨e_87, f_87⟩ := q_87
              rw [e_87, f_87]
              refine ex_if_ne (pc := 90) (tgt := 97) dX6_copy_90 (by decide) (fun c_90 => ?_) (fun c_90 => ?_)
              · skip
                have k5 : hpl (S.2.1 t) a m = true := decide_eq_true (Decidable.not_not.mp (fun q => c_90 (bI_f q)))
                obtain ⟨a1, m1, rfl, rfl, g1⟩ := hpl_ex k5 (hO t ht).2.1
                obtain ⟨p1, m2, rfl, e2, g2⟩ := hpl_ex k4 (hO i hi).2.1
                have hmm : m2 = m1 := by
                  have z1 := (hO i hi).2.1
                  have z2 := (hO t ht).2.1
                  exact ((nI_eq (by omega) (by omega)).mp e2).symm
                subst hmm
                have hz1 := (hO i hi).2.1
                have hz2 := (hO t ht).2.1
                have i_p : ixI (nI p1) = p1 := iK (by omega)
                have i_a : ixI (nI a1) = a1 := iK (by omega)
                have i_m : ixI (nI m2) = m2 := iK (by omega)
                refine ex_aload (pc := 97) dX6_copy_97 rfl ?_
                refine ex_get (pc := 99) dX6_copy_99 fl_X6_292 hs1 rfl ?_
                refine ex_iload_n (pc := 102) dX6_copy_102 rfl ?_
                refine ex_aload (pc := 103) dX6_copy_103 rfl ?_
                refine ex_get (pc := 105) dX6_copy_105 fl_X6_292 ht1 rfl ?_
                refine ex_iload (pc := 108) dX6_copy_108 rfl ?_
                refine ex_iload (pc := 110) dX6_copy_110 rfl ?_
                refine ex_copy (pc := 112) dX6_copy_112 lk_X6_306 gw_cn gw_cs gw_ci hs2 ht2 (nI_pos (by omega)) (nI_pos (by omega)) (nI_pos (by omega)) (by rw [iK (show p1 < 2147483648 by omega), iK (show m2 < 2147483648 by omega)]; omega) (by rw [iK (show a1 < 2147483648 by omega), iK (show m2 < 2147483648 by omega)]; omega) (by decide) (by omega) nf_ok ?_
                refine ex_iload (pc := 115) dX6_copy_115 rfl ?_
                refine ex_ret dX6_copy_117 rfl ?_
                rw [iK (show p1 < 2147483648 by omega), iK (show a1 < 2147483648 by omega), iK (show m2 < 2147483648 by omega)]
                have e1 : nCopy S (nI i) (nI p1) (nI t) (nI a1) (nI m2) = shW S t (S.1 t) (S.2.1 t) (va_cpy (S.2.2 i) (S.2.2 t) p1 a1 m2) := by
                  have kO : okCp S (nI i) (nI p1) (nI t) (nI a1) (nI m2) = true := by simp [okCp, b_5, b_13, i_i, i_t, k1, k2, c_64, k4, k5]
                  unfold nCopy
                  rw [if_pos kO, i_i, i_t, i_p, i_a, i_m]
                rw [e1]
                refine qi_mk ⟨hS0.set ht (FrX.st (Or.inr rfl) (nscr (by omega))) (gs_ne (by omega) ht1) (gs_eq ht2) (fun q hq => ?_), ?_⟩
                · unfold va_cpy
                  by_cases e : a1 ≤ q ∧ q < a1 + m2
                  · rw [if_pos e, if_pos e]; exact hs3 _ (by omega)
                  · rw [if_neg e, if_neg e]; exact ht3 q hq
                · simp [aCopy, b_5, b_13, i_i, i_t, k1, k2, c_64, k4, k5]
              · skip
                have k5 : hpl (S.2.1 t) a m = false := decide_eq_false (bI_0.mp c_90)
                refine ex_ldc_w (pc := 93) dX6_copy_93 cn_X6_288 ?_
                refine ex_ret dX6_copy_96 rfl ?_
                refine qi_mk ⟨?_, ?_⟩
                · have e1 : nCopy S (nI i) pl (nI t) a m = S := by simp [nCopy, okCp, b_5, b_13, i_i, i_t, k1, k2, c_64, k4, k5]
                  rw [e1]; exact ⟨hS0, FrX.rf⟩
                · simp [aCopy, b_5, b_13, i_i, i_t, k1, k2, c_64, k4, k5]
          · skip
            refine ex_ldc (pc := 67) dX6_copy_67 cn_X6_137 ?_
            refine ex_ret dX6_copy_69 rfl ?_
            refine qi_mk ⟨?_, ?_⟩
            · have e1 : nCopy S (nI i) pl (nI t) a m = S := by simp [nCopy, okCp, b_5, b_13, i_i, i_t, k1, k2, c_64]
              rw [e1]; exact ⟨hS0, FrX.rf⟩
            · simp [aCopy, b_5, b_13, i_i, i_t, k1, k2, c_64]
        · skip
          have k2 : S.1 t = -1 := Decidable.not_not.mp (fun q => c_48 (bI_f q))
          refine ex_ldc (pc := 51) dX6_copy_51 cn_X6_230 ?_
          refine ex_ret dX6_copy_53 rfl ?_
          refine qi_mk ⟨?_, ?_⟩
          · have e1 : nCopy S (nI i) pl (nI t) a m = S := by simp [nCopy, okCp, b_5, b_13, i_i, i_t, k1, k2]
            rw [e1]; exact ⟨hS0, FrX.rf⟩
          · simp [aCopy, b_5, b_13, i_i, i_t, k1, k2]
    · skip
      have b_13 := bF c_13
      refine ex_ldc (pc := 16) dX6_copy_16 cn_X6_73 ?_
      refine ex_ret dX6_copy_18 rfl ?_
      refine qi_mk ⟨?_, ?_⟩
      · have e1 : nCopy S fr pl to a m = S := by simp [nCopy, okCp, b_5, b_13]
        rw [e1]; exact ⟨hS0, FrX.rf⟩
      · simp [aCopy, b_5, b_13]

/-! public calls: what a post tells, what it sees, what is watched, who can be spared -/
theorem c_R_sgt {g : Gl} {d ks : Nat} {h : AH} {b n nt : Nat} {s : Nat → Int32} (hC : CR g h b s n nt) (hd : 3 ≤ d) {k : Nat} (hk : k < n) : Ex g mX2_sightOf d 0 ks 0 [some (.ref (g.1 + b)), some (.ref (g.1 + (b + 4 + k))), none, none, none, none] [] h (ql (fun h' r => Sq g h h' ∧ r = setL (sgt s nt k) 48)) := by
  have hn8 := hC.2.1.2.1
  have hb := hC.2.2.2.2
  obtain ⟨⟨kd, hkd, ekd⟩, ⟨c, hc, ec⟩, σ, hσ, eσ⟩ := hC.2.1.2.2 k hk
  have hp : h[b + 4 + k]? = some (po (s (10 + 4 * k + 0)) (nI c) (s (10 + 4 * k + 2)) (s (10 + 4 * k + 3))) := by rw [← ec]; exact hC.1.2.2.2.2.1 k hk
  have esg : (fun t => seeS s (s (10 + 4 * k + 0)) (s (10 + 4 * k + 2)) c (rchS s nt (s (10 + 4 * k + 0)) (s (10 + 4 * k + 3)) (s (10 + 4 * k + 2))) t) = sgt s nt k := by unfold sgt; rw [ec, nI_clamp (by omega)]
  have q := c_R_sightOf (ks := ks) hC hd hp hc (by omega)
  rw [esg] at q
  exact q
theorem c_R_rch {g : Gl} {d ks : Nat} {h : AH} {b n nt : Nat} {s : Nat → Int32} (hC : CR g h b s n nt) (hd : 2 ≤ d) {k : Nat} (hk : k < n) : Ex g mX2_reachOf d 0 ks 0 [some (.ref (g.1 + b)), some (.ref (g.1 + (b + 4 + k))), none, none] [] h (qi (fun h' r => Sq g h h' ∧ r = rchS s nt (s (10 + 4 * k + 0)) (s (10 + 4 * k + 3)) (s (10 + 4 * k + 2)))) :=
  c_R_reachOf hC hd (hC.1.2.2.2.2.1 k hk) (by have := hC.2.1.2.1; have := hC.2.2.2.2; omega)
theorem bw_ne {v : Int32} {n j : Nat} (h : bw v n = false) (hj : j < n) (hn : n < 2147483648 := by omega) : ¬ v = nI j := fun e => by
  rw [e, bw_t hj hn] at h
  cases h
def aTold (s : Nat → Int32) (n nt : Nat) (p w : Int32) : Int32 := if bw p n then (if w = nI 0 then s (10 + 4 * ixI p + 0) else if w = nI 1 then s (10 + 4 * ixI p + 1) else if w = nI 2 then s (10 + 4 * ixI p + 2) else if w = nI 3 then s (10 + 4 * ixI p + 3) else if w = nI 4 then bI (awS s (ixI p) = true) else if w = nI 5 then rchS s nt (s (10 + 4 * ixI p + 0)) (s (10 + 4 * ixI p + 3)) (s (10 + 4 * ixI p + 2)) else if w = nI 6 then nI (cntL (setL (sgt s nt (ixI p)) 48)) else if w = nI 7 then wrt (s (10 + 4 * ixI p + 0)) (s (10 + 4 * ixI p + 3)) else -1000000001) else -1000000001
def aSees (s : Nat → Int32) (n nt : Nat) (p ce : Int32) : Int32 := if bw p n && bw ce 48 then bI (sgt s nt (ixI p) (ixI ce) = true) else -1000000001
def aRow (s : Nat → Int32) (n nt : Nat) (p w : Int32) : Int32 := if bw p n && bw w 6 then (shr64 (setL (sgt s nt (ixI p)) 48) (nI (8 * ixI w)) &&& 255).toInt32 else -1000000001
def aWatched (s : Nat → Int32) (n nt : Nat) (w : Int32) : Int32 := if w = nI 0 then nI (cntL (setL (wtc s nt n) 48)) else if w = nI 1 then nI (cntL (setL (bld s nt n) 48)) else if w = nI 2 then oN (-1000000005) (fstB (bL (setL (bld s nt n) 48)) 48 0) else if w = nI 3 then nI (cntL (setL (gdd s nt n) 48)) else -1000000001
def aSpare (s : Nat → Int32) (n nt : Nat) (p : Int32) : Int32 := if bw p n then bI (setL (sgt s nt (ixI p)) 48 &&& (setL (fun c => anyB (fun k => !(decide (k = ixI p)) && sgt s nt k c) n) 48 ^^^ (-1)) = 0) else -1000000001
set_option maxHeartbeats 4000000 in
set_option maxRecDepth 100000 in
theorem c_W_told {g : Gl} {d ks : Nat} {h : AH} {ik wc : Int32} {s : Nat → Int32} {n nt : Nat} (hW : h[0]? = some (wtC g ik wc)) (hC : CR g h 1 s n nt) (hd : 4 ≤ d) (p w : Int32) : Ex g mX6_told d 0 ks 0 [some (.ref (g.1 + 0)), some (.int p), some (.int w), none] [] h (qi (fun h' r => Sq g h h' ∧ r = (aTold s n nt p w))) := by
  have hR := hC.1
  have hP := hC.2.1
  have hn8 := hP.2.1
  have hN := hR.2.1
  obtain ⟨fp, hfp, hfp2⟩ := hR.2.2.2.1
  refine ex_aload_n (pc := 0) dX6_told_0 rfl ?_
  refine ex_iload_n (pc := 1) dX6_told_1 rfl ?_
  refine cx_VL1i (pc := 2) dX6_told_2 lk_X6_87 hW rfl (Nat.le_of_ble_eq_true rfl) (Nat.le_of_ble_eq_true rfl) (by omega) (c_W_isPost hW hR (by omega) _) (fun h_2 x_2 q_2 => ?_)
  obtain ⟨e_2, f_2⟩ := q_2
  rw [e_2, f_2]
  refine ex_if_ne (pc := 5) (tgt := 11) dX6_told_5 (by decide) (fun c_5 => ?_) (fun c_5 => ?_)
  · skip
    have b_5 := bT c_5
    obtain ⟨p0, hp0, rfl⟩ := bw_ex b_5
    have i_p : ixI (nI p0) = p0 := iK (by omega)
    refine ex_aload_n (pc := 11) dX6_told_11 rfl ?_
    refine ex_get (pc := 12) dX6_told_12 fl_X6_10 hW rfl ?_
    refine ex_get (pc := 15) dX6_told_15 fl_X6_90 hR.1 rfl ?_
    refine ex_iload_n (pc := 18) dX6_told_18 rfl ?_
    refine ex_aldn (k := p0) (v := .ref (g.1 + (1 + 4 + p0))) (pc := 19) dX6_told_19 rfl hfp rfl (by omega) (by decide) (congrArg va_rf (hfp2 p0 (by omega))) ?_
    refine sx_astore_n (pc := 20) dX6_told_20 rfl (by decide) ?_
    show Ex _ _ _ _ _ _ [_, _, _, _] _ _ _
    refine ex_iload_n (pc := 21) dX6_told_21 rfl ?_
    refine ex_tsw (pc := 22) (n := 8) (l0 := 0) (tg := fun j => [68, 73, 78, 83, 88, 103, 112, 124].getD j 0) (td := 129) dX6_told_22 rfl rfl (by decide +kernel) (by decide) (by decide) (fun j_22 hj_22 c_22 => ?_) (fun c_22 => ?_)
    · rcases (show j_22 = 0 ∨ j_22 = 1 ∨ j_22 = 2 ∨ j_22 = 3 ∨ j_22 = 4 ∨ j_22 = 5 ∨ j_22 = 6 ∨ j_22 = 7 by omega) with rfl | rfl | rfl | rfl | rfl | rfl | rfl | rfl
      · show Ex _ _ _ _ _ 68 _ _ _ _
        have c_22 : _ = nI 0 := c_22
        refine ex_aload_n (pc := 68) dX6_told_68 rfl ?_
        refine ex_get (pc := 69) dX6_told_69 fl_X6_94 (hR.2.2.2.2.1 p0 hp0) rfl ?_
        refine ex_ret dX6_told_72 rfl ?_
        refine qi_mk ⟨Sq.rf, ?_⟩
        subst c_22
        simp only [aTold, b_5, i_p, Bool.and_self, Bool.and_true, Bool.true_and, Bool.and_false, Bool.false_and, Bool.or_true, Bool.true_or, Bool.or_false, Bool.false_or, Bool.not_true, Bool.not_false, Bool.false_eq_true, ↓reduceIte]
      · show Ex _ _ _ _ _ 73 _ _ _ _
        have c_22 : _ = nI 1 := c_22
        refine ex_aload_n (pc := 73) dX6_told_73 rfl ?_
        refine ex_get (pc := 74) dX6_told_74 fl_X6_97 (hR.2.2.2.2.1 p0 hp0) rfl ?_
        refine ex_ret dX6_told_77 rfl ?_
        refine qi_mk ⟨Sq.rf, ?_⟩
        subst c_22
        simp only [aTold, b_5, i_p, show ¬ nI 1 = nI 0 by decide, Bool.and_self, Bool.and_true, Bool.true_and, Bool.and_false, Bool.false_and, Bool.or_true, Bool.true_or, Bool.or_false, Bool.false_or, Bool.not_true, Bool.not_false, Bool.false_eq_true, ↓reduceIte]
      · show Ex _ _ _ _ _ 78 _ _ _ _
        have c_22 : _ = nI 2 := c_22
        refine ex_aload_n (pc := 78) dX6_told_78 rfl ?_
        refine ex_get (pc := 79) dX6_told_79 fl_X6_100 (hR.2.2.2.2.1 p0 hp0) rfl ?_
        refine ex_ret dX6_told_82 rfl ?_
        refine qi_mk ⟨Sq.rf, ?_⟩
        subst c_22
        simp only [aTold, b_5, i_p, show ¬ nI 2 = nI 0 by decide, show ¬ nI 2 = nI 1 by decide, Bool.and_self, Bool.and_true, Bool.true_and, Bool.and_false, Bool.false_and, Bool.or_true, Bool.true_or, Bool.or_false, Bool.false_or, Bool.not_true, Bool.not_false, Bool.false_eq_true, ↓reduceIte]
      · show Ex _ _ _ _ _ 83 _ _ _ _
        have c_22 : _ = nI 3 := c_22
        refine ex_aload_n (pc := 83) dX6_told_83 rfl ?_
        refine ex_get (pc := 84) dX6_told_84 fl_X6_103 (hR.2.2.2.2.1 p0 hp0) rfl ?_
        refine ex_ret dX6_told_87 rfl ?_
        refine qi_mk ⟨Sq.rf, ?_⟩
        subst c_22
        simp only [aTold, b_5, i_p, show ¬ nI 3 = nI 0 by decide, show ¬ nI 3 = nI 1 by decide, show ¬ nI 3 = nI 2 by decide, Bool.and_self, Bool.and_true, Bool.true_and, Bool.and_false, Bool.false_and, Bool.or_true, Bool.true_or, Bool.or_false, Bool.false_or, Bool.not_true, Bool.not_false, Bool.false_eq_true, ↓reduceIte]
      · show Ex _ _ _ _ _ 88 _ _ _ _
        have c_22 : _ = nI 4 := c_22
        refine ex_aload_n (pc := 88) dX6_told_88 rfl ?_
        refine ex_aload_n (pc := 89) dX6_told_89 rfl ?_
        refine ex_get (pc := 90) dX6_told_90 fl_X6_10 hW rfl ?_
        refine ex_get (pc := 93) dX6_told_93 fl_X6_106 hR.1 rfl ?_
        refine cx_VL1i (pc := 96) dX6_told_96 lk_X6_109 (hR.2.2.2.2.1 p0 hp0) rfl (Nat.le_of_ble_eq_true rfl) (Nat.le_of_ble_eq_true rfl) (by omega) (c_P_isAwake (hR.2.2.2.2.1 p0 hp0) _) (fun h_96 x_96 q_96 => ?_)
        obtain ⟨e_96, f_96⟩ := q_96
        rw [e_96, f_96]
        refine cx_SL1i (pc := 99) dX6_told_99 lk_X6_112 rfl (Nat.le_of_ble_eq_true rfl) (Nat.le_of_ble_eq_true rfl) (by omega) (c_oneIf _) (fun h_99 x_99 q_99 => ?_)
        obtain ⟨e_99, f_99⟩ := q_99
        rw [e_99, f_99]
        refine ex_ret dX6_told_102 rfl ?_
        refine qi_mk ⟨Sq.rf, ?_⟩
        show bI (¬ bI (awS s p0 = true) = 0) = _
        rw [bI_bI]
        subst c_22
        simp only [aTold, b_5, i_p, show ¬ nI 4 = nI 0 by decide, show ¬ nI 4 = nI 1 by decide, show ¬ nI 4 = nI 2 by decide, show ¬ nI 4 = nI 3 by decide, Bool.and_self, Bool.and_true, Bool.true_and, Bool.and_false, Bool.false_and, Bool.or_true, Bool.true_or, Bool.or_false, Bool.false_or, Bool.not_true, Bool.not_false, Bool.false_eq_true, ↓reduceIte]
      · show Ex _ _ _ _ _ 103 _ _ _ _
        have c_22 : _ = nI 5 := c_22
        refine ex_aload_n (pc := 103) dX6_told_103 rfl ?_
        refine ex_get (pc := 104) dX6_told_104 fl_X6_10 hW rfl ?_
        refine ex_aload_n (pc := 107) dX6_told_107 rfl ?_
        refine cx_VL1i (pc := 108) dX6_told_108 lk_X6_116 hR.1 rfl (Nat.le_of_ble_eq_true rfl) (Nat.le_of_ble_eq_true rfl) (by omega) (c_R_rch hC (by omega) hp0) (fun h_108 x_108 q_108 => ?_)
        obtain ⟨hs_108, f_108⟩ := q_108
        rw [f_108]
        refine ex_ret dX6_told_111 rfl ?_
        refine qi_mk ⟨hs_108, ?_⟩
        subst c_22
        simp only [aTold, b_5, i_p, show ¬ nI 5 = nI 0 by decide, show ¬ nI 5 = nI 1 by decide, show ¬ nI 5 = nI 2 by decide, show ¬ nI 5 = nI 3 by decide, show ¬ nI 5 = nI 4 by decide, Bool.and_self, Bool.and_true, Bool.true_and, Bool.and_false, Bool.false_and, Bool.or_true, Bool.true_or, Bool.or_false, Bool.false_or, Bool.not_true, Bool.not_false, Bool.false_eq_true, ↓reduceIte]
      · show Ex _ _ _ _ _ 112 _ _ _ _
        have c_22 : _ = nI 6 := c_22
        refine ex_aload_n (pc := 112) dX6_told_112 rfl ?_
        refine ex_get (pc := 113) dX6_told_113 fl_X6_10 hW rfl ?_
        refine ex_aload_n (pc := 116) dX6_told_116 rfl ?_
        refine cx_VL1l (pc := 117) dX6_told_117 lk_X6_120 hR.1 rfl (Nat.le_of_ble_eq_true rfl) (Nat.le_of_ble_eq_true rfl) (by omega) (c_R_sgt hC (by omega) hp0) (fun h_117 x_117 q_117 => ?_)
        obtain ⟨hs_117, f_117⟩ := q_117
        rw [f_117]
        refine cx_SL1i (pc := 120) dX6_told_120 lk_X6_124 rfl (Nat.le_of_ble_eq_true rfl) (Nat.le_of_ble_eq_true rfl) (by omega) (c_lbc _) (fun h_120 x_120 q_120 => ?_)
        obtain ⟨e_120, f_120⟩ := q_120
        rw [e_120, f_120]
        refine ex_ret dX6_told_123 rfl ?_
        refine qi_mk ⟨hs_117, ?_⟩
        subst c_22
        simp only [aTold, b_5, i_p, show ¬ nI 6 = nI 0 by decide, show ¬ nI 6 = nI 1 by decide, show ¬ nI 6 = nI 2 by decide, show ¬ nI 6 = nI 3 by decide, show ¬ nI 6 = nI 4 by decide, show ¬ nI 6 = nI 5 by decide, Bool.and_self, Bool.and_true, Bool.true_and, Bool.and_false, Bool.false_and, Bool.or_true, Bool.true_or, Bool.or_false, Bool.false_or, Bool.not_true, Bool.not_false, Bool.false_eq_true, ↓reduceIte]
      · show Ex _ _ _ _ _ 124 _ _ _ _
        have c_22 : _ = nI 7 := c_22
        refine ex_aload_n (pc := 124) dX6_told_124 rfl ?_
        refine cx_VL0i (pc := 125) dX6_told_125 lk_X6_130 (hR.2.2.2.2.1 p0 hp0) rfl (Nat.le_of_ble_eq_true rfl) (Nat.le_of_ble_eq_true rfl) (by omega) (c_P_worth (hR.2.2.2.2.1 p0 hp0)) (fun h_125 x_125 q_125 => ?_)
        obtain ⟨e_125, f_125⟩ := q_125
        rw [e_125, f_125]
        refine ex_ret dX6_told_128 rfl ?_
        refine qi_mk ⟨Sq.rf, ?_⟩
        subst c_22
        simp only [aTold, b_5, i_p, show ¬ nI 7 = nI 0 by decide, show ¬ nI 7 = nI 1 by decide, show ¬ nI 7 = nI 2 by decide, show ¬ nI 7 = nI 3 by decide, show ¬ nI 7 = nI 4 by decide, show ¬ nI 7 = nI 5 by decide, show ¬ nI 7 = nI 6 by decide, Bool.and_self, Bool.and_true, Bool.true_and, Bool.and_false, Bool.false_and, Bool.or_true, Bool.true_or, Bool.or_false, Bool.false_or, Bool.not_true, Bool.not_false, Bool.false_eq_true, ↓reduceIte]
    · skip
      have c_22_0 : ¬ _ = nI 0 := c_22 0 (by decide)
      have c_22_1 : ¬ _ = nI 1 := c_22 1 (by decide)
      have c_22_2 : ¬ _ = nI 2 := c_22 2 (by decide)
      have c_22_3 : ¬ _ = nI 3 := c_22 3 (by decide)
      have c_22_4 : ¬ _ = nI 4 := c_22 4 (by decide)
      have c_22_5 : ¬ _ = nI 5 := c_22 5 (by decide)
      have c_22_6 : ¬ _ = nI 6 := c_22 6 (by decide)
      have c_22_7 : ¬ _ = nI 7 := c_22 7 (by decide)
      refine ex_ldc (pc := 129) dX6_told_129 cn_X6_73 ?_
      refine ex_ret dX6_told_131 rfl ?_
      refine qi_mk ⟨Sq.rf, ?_⟩
      simp only [aTold, b_5, c_22_0, c_22_1, c_22_2, c_22_3, c_22_4, c_22_5, c_22_6, c_22_7, Bool.and_self, Bool.and_true, Bool.true_and, Bool.and_false, Bool.false_and, Bool.or_true, Bool.true_or, Bool.or_false, Bool.false_or, Bool.not_true, Bool.not_false, Bool.false_eq_true, ↓reduceIte, ite_self]
  · skip
    have b_5 := bF c_5
    refine ex_ldc (pc := 8) dX6_told_8 cn_X6_73 ?_
    refine ex_ret dX6_told_10 rfl ?_
    refine qi_mk ⟨Sq.rf, ?_⟩
    simp [aTold, b_5]
set_option maxHeartbeats 4000000 in
set_option maxRecDepth 100000 in
theorem c_M_told {g : Gl} {d ks : Nat} {h : AH} {z s : Nat → Int32} {n nt : Nat} (hR : MR g h z s n nt) (hd : 6 ≤ d) (p w : Int32) : Ex g mX7_told d 0 ks 0 [some (.ref (g.1 + 75)), some (.int p), some (.int w)] [] h (qi (fun h' r => Sq g h h' ∧ r = (aTold s n nt p w))) := by
  have hM := hR.1
  have hP := hR.2.1
  have hn8 := hP.2.1
  have hN := hP.1
  refine ex_aload_n (pc := 0) dX7_told_0 rfl ?_
  refine ex_iload_n (pc := 1) dX7_told_1 rfl ?_
  refine cx_VL1i (pc := 2) dX7_told_2 lk_X7_171 hM.1 rfl (Nat.le_of_ble_eq_true rfl) (Nat.le_of_ble_eq_true rfl) (by omega) (c_M_isp hM hN hn8 (by omega) _) (fun h_2 x_2 q_2 => ?_)
  obtain ⟨e_2, f_2⟩ := q_2
  rw [e_2, f_2]
  refine ex_if_eq (pc := 5) (tgt := 20) dX7_told_5 (by decide) (fun c_5 => ?_) (fun c_5 => ?_)
  · skip
    have b_5 := bF c_5
    refine ex_ldc (pc := 20) dX7_told_20 cn_X7_161 ?_
    refine ex_ret dX7_told_22 rfl ?_
    refine qi_mk ⟨Sq.rf, ?_⟩
    simp [aTold, b_5]
  · skip
    have b_5 := bT c_5
    refine ex_iload_n (pc := 8) dX7_told_8 rfl ?_
    refine ex_i2l (pc := 9) dX7_told_9 ?_
    refine ex_lconst (pc := 10) (v := 0) dX7_told_10 (by decide) ?_
    refine ex_ldc2_w (pc := 11) dX7_told_11 cn_X7_174 ?_
    refine cx_SL3i (pc := 14) dX7_told_14 lk_X7_69 rfl (Nat.le_of_ble_eq_true rfl) (Nat.le_of_ble_eq_true rfl) (by omega) (c_M_in _ (m := 8) (by decide)) (fun h_14 x_14 q_14 => ?_)
    obtain ⟨e_14, f_14⟩ := q_14
    rw [e_14, f_14]
    refine ex_if_ne (pc := 17) (tgt := 23) dX7_told_17 (by decide) (fun c_17 => ?_) (fun c_17 => ?_)
    · skip
      have b_17 := bT c_17
      obtain ⟨p0, hp0, rfl⟩ := bw_ex b_5
      have i_p : ixI (nI p0) = p0 := iK (by omega)
      refine ex_iload_n (pc := 23) dX7_told_23 rfl ?_
      refine ex_tsw (pc := 24) (n := 4) (l0 := 4) (tg := fun j => [56, 70, 76, 85].getD j 0) (td := 91) dX7_told_24 rfl rfl (by decide +kernel) (by decide) (by decide) (fun j_24 hj_24 c_24 => ?_) (fun c_24 => ?_)
      · rcases (show j_24 = 0 ∨ j_24 = 1 ∨ j_24 = 2 ∨ j_24 = 3 by omega) with rfl | rfl | rfl | rfl
        · show Ex _ _ _ _ _ 56 _ _ _ _
          have c_24 : _ = nI 4 := c_24
          refine ex_aload_n (pc := 56) dX7_told_56 rfl ?_
          refine ex_iload_n (pc := 57) dX7_told_57 rfl ?_
          refine cx_VL1i (pc := 58) dX7_told_58 lk_X7_136 hM.1 rfl (Nat.le_of_ble_eq_true rfl) (Nat.le_of_ble_eq_true rfl) (by omega) (c_M_isAwake hM (by omega) (show p0 < 8 by omega)) (fun h_58 x_58 q_58 => ?_)
          obtain ⟨e_58, f_58⟩ := q_58
          rw [e_58, f_58]
          refine ex_if_eq (pc := 61) (tgt := 68) dX7_told_61 (by decide) (fun c_61 => ?_) (fun c_61 => ?_)
          · skip
            have b_61 := bF c_61
            refine ex_iconst (pc := 68) (v := 0) dX7_told_68 (by decide) ?_
            refine ex_ret dX7_told_69 rfl ?_
            refine qi_mk ⟨Sq.rf, ?_⟩
            subst c_24
            have k1 : awS s p0 = _ := b_61
            simp only [aTold, b_5, i_p, k1, show ¬ nI 4 = nI 0 by decide, show ¬ nI 4 = nI 1 by decide, show ¬ nI 4 = nI 2 by decide, show ¬ nI 4 = nI 3 by decide, Bool.and_self, Bool.and_true, Bool.true_and, Bool.and_false, Bool.false_and, Bool.or_true, Bool.true_or, Bool.or_false, Bool.false_or, Bool.not_true, Bool.not_false, Bool.false_eq_true, ↓reduceIte]
            rfl
          · skip
            have b_61 := bT c_61
            refine ex_iconst (pc := 64) (v := 1) dX7_told_64 (by decide) ?_
            refine ex_goto (pc := 65) (tgt := 69) dX7_told_65 (by decide) ?_
            refine ex_ret dX7_told_69 rfl ?_
            refine qi_mk ⟨Sq.rf, ?_⟩
            subst c_24
            have k1 : awS s p0 = _ := b_61
            simp only [aTold, b_5, i_p, k1, show ¬ nI 4 = nI 0 by decide, show ¬ nI 4 = nI 1 by decide, show ¬ nI 4 = nI 2 by decide, show ¬ nI 4 = nI 3 by decide, Bool.and_self, Bool.and_true, Bool.true_and, Bool.and_false, Bool.false_and, Bool.or_true, Bool.true_or, Bool.or_false, Bool.false_or, Bool.not_true, Bool.not_false, Bool.false_eq_true, ↓reduceIte]
            rfl
        · show Ex _ _ _ _ _ 70 _ _ _ _
          have c_24 : _ = nI 5 := c_24
          refine ex_aload_n (pc := 70) dX7_told_70 rfl ?_
          refine ex_iload_n (pc := 71) dX7_told_71 rfl ?_
          refine cx_VL1i (pc := 72) dX7_told_72 lk_X7_121 hM.1 rfl (Nat.le_of_ble_eq_true rfl) (Nat.le_of_ble_eq_true rfl) (by omega) (c_M_reachOf hR (by omega) (show p0 < 8 by omega)) (fun h_72 x_72 q_72 => ?_)
          obtain ⟨hs_72, f_72⟩ := q_72
          rw [f_72]
          refine ex_ret dX7_told_75 rfl ?_
          refine qi_mk ⟨hs_72, ?_⟩
          subst c_24
          simp only [aTold, b_5, b_17, i_p, show ¬ nI 5 = nI 0 by decide, show ¬ nI 5 = nI 1 by decide, show ¬ nI 5 = nI 2 by decide, show ¬ nI 5 = nI 3 by decide, show ¬ nI 5 = nI 4 by decide, Bool.and_self, Bool.and_true, Bool.true_and, Bool.and_false, Bool.false_and, Bool.or_true, Bool.true_or, Bool.or_false, Bool.false_or, Bool.not_true, Bool.not_false, Bool.false_eq_true, ↓reduceIte]
        · show Ex _ _ _ _ _ 76 _ _ _ _
          have c_24 : _ = nI 6 := c_24
          refine ex_aload_n (pc := 76) dX7_told_76 rfl ?_
          refine ex_iload_n (pc := 77) dX7_told_77 rfl ?_
          refine cx_VL1l (pc := 78) dX7_told_78 lk_X7_132 hM.1 rfl (Nat.le_of_ble_eq_true rfl) (Nat.le_of_ble_eq_true rfl) (by omega) (c_M_seenBy hR (by omega) hp0) (fun h_78 x_78 q_78 => ?_)
          obtain ⟨hs_78, f_78⟩ := q_78
          rw [f_78]
          refine cx_SL1i (pc := 81) dX7_told_81 lk_X7_176 rfl (Nat.le_of_ble_eq_true rfl) (Nat.le_of_ble_eq_true rfl) (by omega) (c_M_many _) (fun h_81 x_81 q_81 => ?_)
          obtain ⟨e_81, f_81⟩ := q_81
          rw [e_81, f_81]
          refine ex_ret dX7_told_84 rfl ?_
          refine qi_mk ⟨hs_78, ?_⟩
          subst c_24
          simp only [aTold, b_5, b_17, i_p, show ¬ nI 6 = nI 0 by decide, show ¬ nI 6 = nI 1 by decide, show ¬ nI 6 = nI 2 by decide, show ¬ nI 6 = nI 3 by decide, show ¬ nI 6 = nI 4 by decide, show ¬ nI 6 = nI 5 by decide, Bool.and_self, Bool.and_true, Bool.true_and, Bool.and_false, Bool.false_and, Bool.or_true, Bool.true_or, Bool.or_false, Bool.false_or, Bool.not_true, Bool.not_false, Bool.false_eq_true, ↓reduceIte]
        · show Ex _ _ _ _ _ 85 _ _ _ _
          have c_24 : _ = nI 7 := c_24
          refine ex_aload_n (pc := 85) dX7_told_85 rfl ?_
          refine ex_iload_n (pc := 86) dX7_told_86 rfl ?_
          refine cx_VL1i (pc := 87) dX7_told_87 lk_X7_180 hM.1 rfl (Nat.le_of_ble_eq_true rfl) (Nat.le_of_ble_eq_true rfl) (by omega) (c_M_worth hM (by omega) (show p0 < 8 by omega)) (fun h_87 x_87 q_87 => ?_)
          obtain ⟨e_87, f_87⟩ := q_87
          rw [e_87, f_87]
          refine ex_ret dX7_told_90 rfl ?_
          refine qi_mk ⟨Sq.rf, ?_⟩
          subst c_24
          simp only [aTold, b_5, b_17, i_p, show ¬ nI 7 = nI 0 by decide, show ¬ nI 7 = nI 1 by decide, show ¬ nI 7 = nI 2 by decide, show ¬ nI 7 = nI 3 by decide, show ¬ nI 7 = nI 4 by decide, show ¬ nI 7 = nI 5 by decide, show ¬ nI 7 = nI 6 by decide, Bool.and_self, Bool.and_true, Bool.true_and, Bool.and_false, Bool.false_and, Bool.or_true, Bool.true_or, Bool.or_false, Bool.false_or, Bool.not_true, Bool.not_false, Bool.false_eq_true, ↓reduceIte]
      · skip
        have c_24_4 : ¬ _ = nI 4 := c_24 0 (by decide)
        have c_24_5 : ¬ _ = nI 5 := c_24 1 (by decide)
        have c_24_6 : ¬ _ = nI 6 := c_24 2 (by decide)
        have c_24_7 : ¬ _ = nI 7 := c_24 3 (by decide)
        obtain ⟨w0, hw0, rfl⟩ := bw_ex b_17
        have hw4 : w0 < 4 := by
          refine Nat.not_le.mp (fun q => ?_)
          rcases (show w0 = 4 ∨ w0 = 5 ∨ w0 = 6 ∨ w0 = 7 by omega) with rfl | rfl | rfl | rfl
          · exact c_24_4 rfl
          · exact c_24_5 rfl
          · exact c_24_6 rfl
          · exact c_24_7 rfl
        refine ex_aload_n (pc := 91) dX7_told_91 rfl ?_
        refine ex_iload_n (pc := 92) dX7_told_92 rfl ?_
        refine ex_iload_n (pc := 93) dX7_told_93 rfl ?_
        refine cx_VL2i (pc := 94) dX7_told_94 lk_X7_76 hM.1 rfl (Nat.le_of_ble_eq_true rfl) (Nat.le_of_ble_eq_true rfl) (by omega) (c_M_of hM (k := p0) (f := w0) (by omega)) (fun h_94 x_94 q_94 => ?_)
        obtain ⟨e_94, f_94⟩ := q_94
        rw [e_94, f_94]
        refine ex_ret dX7_told_97 rfl ?_
        refine qi_mk ⟨Sq.rf, ?_⟩
        rcases (show w0 = 0 ∨ w0 = 1 ∨ w0 = 2 ∨ w0 = 3 by omega) with rfl | rfl | rfl | rfl
        · simp only [aTold, b_5, i_p, Bool.and_self, Bool.and_true, Bool.true_and, Bool.and_false, Bool.false_and, Bool.or_true, Bool.true_or, Bool.or_false, Bool.false_or, Bool.not_true, Bool.not_false, Bool.false_eq_true, ↓reduceIte]
        · simp only [aTold, b_5, i_p, show ¬ nI 1 = nI 0 by decide, Bool.and_self, Bool.and_true, Bool.true_and, Bool.and_false, Bool.false_and, Bool.or_true, Bool.true_or, Bool.or_false, Bool.false_or, Bool.not_true, Bool.not_false, Bool.false_eq_true, ↓reduceIte]
        · simp only [aTold, b_5, i_p, show ¬ nI 2 = nI 0 by decide, show ¬ nI 2 = nI 1 by decide, Bool.and_self, Bool.and_true, Bool.true_and, Bool.and_false, Bool.false_and, Bool.or_true, Bool.true_or, Bool.or_false, Bool.false_or, Bool.not_true, Bool.not_false, Bool.false_eq_true, ↓reduceIte]
        · simp only [aTold, b_5, i_p, show ¬ nI 3 = nI 0 by decide, show ¬ nI 3 = nI 1 by decide, show ¬ nI 3 = nI 2 by decide, Bool.and_self, Bool.and_true, Bool.true_and, Bool.and_false, Bool.false_and, Bool.or_true, Bool.true_or, Bool.or_false, Bool.false_or, Bool.not_true, Bool.not_false, Bool.false_eq_true, ↓reduceIte]
    · skip
      have b_17 := bF c_17
      refine ex_ldc (pc := 20) dX7_told_20 cn_X7_161 ?_
      refine ex_ret dX7_told_22 rfl ?_
      refine qi_mk ⟨Sq.rf, ?_⟩
      simp only [aTold, b_5, b_17, bw_ne b_17 (show 0 < 8 by omega), bw_ne b_17 (show 1 < 8 by omega), bw_ne b_17 (show 2 < 8 by omega), bw_ne b_17 (show 3 < 8 by omega), bw_ne b_17 (show 4 < 8 by omega), bw_ne b_17 (show 5 < 8 by omega), bw_ne b_17 (show 6 < 8 by omega), bw_ne b_17 (show 7 < 8 by omega), Bool.and_self, Bool.and_true, Bool.true_and, Bool.and_false, Bool.false_and, Bool.or_true, Bool.true_or, Bool.or_false, Bool.false_or, Bool.not_true, Bool.not_false, Bool.false_eq_true, ↓reduceIte, ite_self]
set_option maxHeartbeats 4000000 in
set_option maxRecDepth 100000 in
theorem c_W_sees {g : Gl} {d ks : Nat} {h : AH} {ik wc : Int32} {s : Nat → Int32} {n nt : Nat} (hW : h[0]? = some (wtC g ik wc)) (hC : CR g h 1 s n nt) (hd : 4 ≤ d) (p ce : Int32) : Ex g mX6_sees d 0 ks 0 [some (.ref (g.1 + 0)), some (.int p), some (.int ce), none] [] h (qi (fun h' r => Sq g h h' ∧ r = (aSees s n nt p ce))) := by
  have hR := hC.1
  have hP := hC.2.1
  have hn8 := hP.2.1
  have hN := hR.2.1
  obtain ⟨fp, hfp, hfp2⟩ := hR.2.2.2.1
  refine ex_aload_n (pc := 0) dX6_sees_0 rfl ?_
  refine ex_iload_n (pc := 1) dX6_sees_1 rfl ?_
  refine cx_VL1i (pc := 2) dX6_sees_2 lk_X6_87 hW rfl (Nat.le_of_ble_eq_true rfl) (Nat.le_of_ble_eq_true rfl) (by omega) (c_W_isPost hW hR (by omega) _) (fun h_2 x_2 q_2 => ?_)
  obtain ⟨e_2, f_2⟩ := q_2
  rw [e_2, f_2]
  refine ex_if_eq (pc := 5) (tgt := 17) dX6_sees_5 (by decide) (fun c_5 => ?_) (fun c_5 => ?_)
  · skip
    have b_5 := bF c_5
    refine ex_ldc (pc := 17) dX6_sees_17 cn_X6_73 ?_
    refine ex_ret dX6_sees_19 rfl ?_
    refine qi_mk ⟨Sq.rf, ?_⟩
    simp [aSees, b_5]
  · skip
    have b_5 := bT c_5
    refine ex_iload_n (pc := 8) dX6_sees_8 rfl ?_
    refine ex_bipush (pc := 9) (v := (nI 48)) dX6_sees_9 (by decide) ?_
    refine cx_SL2i (pc := 11) dX6_sees_11 lk_X6_69 rfl (Nat.le_of_ble_eq_true rfl) (Nat.le_of_ble_eq_true rfl) (by omega) (c_ib _ _) (fun h_11 x_11 q_11 => ?_)
    obtain ⟨e_11, f_11⟩ := q_11
    rw [e_11, f_11]
    refine ex_if_ne (pc := 14) (tgt := 20) dX6_sees_14 (by decide) (fun c_14 => ?_) (fun c_14 => ?_)
    · skip
      have b_14 := bT c_14
      obtain ⟨p0, hp0, rfl⟩ := bw_ex b_5
      have i_p : ixI (nI p0) = p0 := iK (by omega)
      obtain ⟨c, hc, rfl⟩ := bw_ex b_14
      have i_c : ixI (nI c) = c := iK (by omega)
      obtain ⟨⟨kd, hkd, ekd⟩, ⟨cc, hcc, ec⟩, σ, hσ, eσ⟩ := hP.2.2 p0 hp0
      have hq : h[1 + 4 + p0]? = some (po (s (10 + 4 * p0 + 0)) (nI cc) (s (10 + 4 * p0 + 2)) (s (10 + 4 * p0 + 3))) := by rw [← ec]; exact hR.2.2.2.2.1 p0 hp0
      refine ex_aload_n (pc := 20) dX6_sees_20 rfl ?_
      refine ex_get (pc := 21) dX6_sees_21 fl_X6_10 hW rfl ?_
      refine ex_get (pc := 24) dX6_sees_24 fl_X6_90 hR.1 rfl ?_
      refine ex_iload_n (pc := 27) dX6_sees_27 rfl ?_
      refine ex_aldn (k := p0) (v := .ref (g.1 + (1 + 4 + p0))) (pc := 28) dX6_sees_28 rfl hfp rfl (by omega) (by decide) (congrArg va_rf (hfp2 p0 (by omega))) ?_
      refine sx_astore_n (pc := 29) dX6_sees_29 rfl (by decide) ?_
      show Ex _ _ _ _ _ _ [_, _, _, _] _ _ _
      refine ex_aload_n (pc := 30) dX6_sees_30 rfl ?_
      refine ex_get (pc := 31) dX6_sees_31 fl_X6_10 hW rfl ?_
      refine ex_aload_n (pc := 34) dX6_sees_34 rfl ?_
      refine ex_iload_n (pc := 35) dX6_sees_35 rfl ?_
      refine ex_aload_n (pc := 36) dX6_sees_36 rfl ?_
      refine ex_get (pc := 37) dX6_sees_37 fl_X6_10 hW rfl ?_
      refine ex_aload_n (pc := 40) dX6_sees_40 rfl ?_
      refine cx_VL1i (pc := 41) dX6_sees_41 lk_X6_116 hR.1 rfl (Nat.le_of_ble_eq_true rfl) (Nat.le_of_ble_eq_true rfl) (by omega) (c_R_rch hC (by omega) hp0) (fun h_41 x_41 q_41 => ?_)
      obtain ⟨hs_41, f_41⟩ := q_41
      rw [f_41]
      refine cx_VL3i (pc := 44) dX6_sees_44 lk_X6_178 (hC.sq hs_41).1.1 rfl (Nat.le_of_ble_eq_true rfl) (Nat.le_of_ble_eq_true rfl) (by omega) (c_R_isInSight (hC.sq hs_41).1 (by omega) hcc hc (hs_41.at (nscr (by omega)) hq) _) (fun h_44 x_44 q_44 => ?_)
      obtain ⟨e_44, f_44⟩ := q_44
      rw [e_44, f_44]
      refine cx_SL1i (pc := 47) dX6_sees_47 lk_X6_112 rfl (Nat.le_of_ble_eq_true rfl) (Nat.le_of_ble_eq_true rfl) (by omega) (c_oneIf _) (fun h_47 x_47 q_47 => ?_)
      obtain ⟨e_47, f_47⟩ := q_47
      rw [e_47, f_47]
      refine ex_ret dX6_sees_50 rfl ?_
      refine qi_mk ⟨hs_41, ?_⟩
      rw [bI_bI]
      simp only [aSees, b_5, b_14, i_p, i_c, Bool.and_self, Bool.and_true, Bool.true_and, Bool.and_false, Bool.false_and, Bool.or_true, Bool.true_or, Bool.or_false, Bool.false_or, Bool.not_true, Bool.not_false, Bool.false_eq_true, ↓reduceIte]
      unfold sgt
      rw [ec, nI_clamp (by omega)]
    · skip
      have b_14 := bF c_14
      refine ex_ldc (pc := 17) dX6_sees_17 cn_X6_73 ?_
      refine ex_ret dX6_sees_19 rfl ?_
      refine qi_mk ⟨Sq.rf, ?_⟩
      simp [aSees, b_5, b_14]
set_option maxHeartbeats 4000000 in
set_option maxRecDepth 100000 in
theorem c_M_sees {g : Gl} {d ks : Nat} {h : AH} {z s : Nat → Int32} {n nt : Nat} (hR : MR g h z s n nt) (hd : 6 ≤ d) (p ce : Int32) : Ex g mX7_sees d 0 ks 0 [some (.ref (g.1 + 75)), some (.int p), some (.int ce)] [] h (qi (fun h' r => Sq g h h' ∧ r = (aSees s n nt p ce))) := by
  have hM := hR.1
  have hP := hR.2.1
  have hn8 := hP.2.1
  have hN := hP.1
  refine ex_aload_n (pc := 0) dX7_sees_0 rfl ?_
  refine ex_iload_n (pc := 1) dX7_sees_1 rfl ?_
  refine cx_VL1i (pc := 2) dX7_sees_2 lk_X7_171 hM.1 rfl (Nat.le_of_ble_eq_true rfl) (Nat.le_of_ble_eq_true rfl) (by omega) (c_M_isp hM hN hn8 (by omega) _) (fun h_2 x_2 q_2 => ?_)
  obtain ⟨e_2, f_2⟩ := q_2
  rw [e_2, f_2]
  refine ex_if_eq (pc := 5) (tgt := 15) dX7_sees_5 (by decide) (fun c_5 => ?_) (fun c_5 => ?_)
  · skip
    have b_5 := bF c_5
    refine ex_ldc (pc := 15) dX7_sees_15 cn_X7_161 ?_
    refine ex_ret dX7_sees_17 rfl ?_
    refine qi_mk ⟨Sq.rf, ?_⟩
    simp [aSees, b_5]
  · skip
    have b_5 := bT c_5
    refine ex_iload_n (pc := 8) dX7_sees_8 rfl ?_
    refine cx_SL1i (pc := 9) dX7_sees_9 lk_X7_156 rfl (Nat.le_of_ble_eq_true rfl) (Nat.le_of_ble_eq_true rfl) (by omega) (c_M_cel (by omega) _) (fun h_9 x_9 q_9 => ?_)
    obtain ⟨e_9, f_9⟩ := q_9
    rw [e_9, f_9]
    refine ex_if_ne (pc := 12) (tgt := 18) dX7_sees_12 (by decide) (fun c_12 => ?_) (fun c_12 => ?_)
    · skip
      have b_12 := bT c_12
      obtain ⟨p0, hp0, rfl⟩ := bw_ex b_5
      have i_p : ixI (nI p0) = p0 := iK (by omega)
      obtain ⟨c, hc, rfl⟩ := bw_ex b_12
      have i_c : ixI (nI c) = c := iK (by omega)
      refine ex_aload_n (pc := 18) dX7_sees_18 rfl ?_
      refine ex_iload_n (pc := 19) dX7_sees_19 rfl ?_
      refine ex_iload_n (pc := 20) dX7_sees_20 rfl ?_
      refine cx_VL2i (pc := 21) dX7_sees_21 lk_X7_208 hM.1 rfl (Nat.le_of_ble_eq_true rfl) (Nat.le_of_ble_eq_true rfl) (by omega) (c_M_seesIt hR (by omega) hp0 hc) (fun h_21 x_21 q_21 => ?_)
      obtain ⟨hs_21, f_21⟩ := q_21
      rw [f_21]
      refine ex_if_eq (pc := 24) (tgt := 31) dX7_sees_24 (by decide) (fun c_24 => ?_) (fun c_24 => ?_)
      · skip
        have b_24 := bF c_24
        refine ex_iconst (pc := 31) (v := 0) dX7_sees_31 (by decide) ?_
        refine ex_ret dX7_sees_32 rfl ?_
        refine qi_mk ⟨hs_21, ?_⟩
        simp only [aSees, b_5, b_12, b_24, i_p, i_c, Bool.and_self, Bool.and_true, Bool.true_and, Bool.and_false, Bool.false_and, Bool.or_true, Bool.true_or, Bool.or_false, Bool.false_or, Bool.not_true, Bool.not_false, Bool.false_eq_true, ↓reduceIte]
        rfl
      · skip
        have b_24 := bT c_24
        refine ex_iconst (pc := 27) (v := 1) dX7_sees_27 (by decide) ?_
        refine ex_goto (pc := 28) (tgt := 32) dX7_sees_28 (by decide) ?_
        refine ex_ret dX7_sees_32 rfl ?_
        refine qi_mk ⟨hs_21, ?_⟩
        simp only [aSees, b_5, b_12, b_24, i_p, i_c, Bool.and_self, Bool.and_true, Bool.true_and, Bool.and_false, Bool.false_and, Bool.or_true, Bool.true_or, Bool.or_false, Bool.false_or, Bool.not_true, Bool.not_false, Bool.false_eq_true, ↓reduceIte]
        rfl
    · skip
      have b_12 := bF c_12
      refine ex_ldc (pc := 15) dX7_sees_15 cn_X7_161 ?_
      refine ex_ret dX7_sees_17 rfl ?_
      refine qi_mk ⟨Sq.rf, ?_⟩
      simp [aSees, b_5, b_12]
theorem row_eq {x : Int64} {k : Nat} (hk : k < 48) (hx : bL x 63 = false) : (ush64 x (nI k)).toInt32 &&& nI 255 = (shr64 x (nI k) &&& 255).toInt32 := by
  have e : shr64 x (nI k) = ush64 x (nI k) := by
    apply bL_ext
    intro i hi
    rw [bL_shr x (by omega) hi, bL_ush x (by omega)]
    split
    · rfl
    · rw [hx, bL_hi (by omega)]
  rw [e]
  generalize ush64 x (nI k) = y
  apply Int32.toBitVec_inj.mp
  have e1 : (y &&& 255).toInt32 = y.toInt32 &&& (255 : Int64).toInt32 := by
    apply Int32.toBitVec_inj.mp
    show ((y &&& 255).toBitVec.signExtend 32) = (y.toBitVec.signExtend 32) &&& ((255 : Int64).toBitVec.signExtend 32)
    rw [Int64.toBitVec_and, BitVec.signExtend_and]
  rw [e1]
  rfl
set_option maxHeartbeats 4000000 in
set_option maxRecDepth 100000 in
theorem c_W_row {g : Gl} {d ks : Nat} {h : AH} {ik wc : Int32} {s : Nat → Int32} {n nt : Nat} (hW : h[0]? = some (wtC g ik wc)) (hC : CR g h 1 s n nt) (hd : 4 ≤ d) (p w : Int32) : Ex g mX6_row d 0 ks 0 [some (.ref (g.1 + 0)), some (.int p), some (.int w), none, none] [] h (qi (fun h' r => Sq g h h' ∧ r = (aRow s n nt p w))) := by
  have hR := hC.1
  have hP := hC.2.1
  have hn8 := hP.2.1
  have hN := hR.2.1
  obtain ⟨fp, hfp, hfp2⟩ := hR.2.2.2.1
  refine ex_aload_n (pc := 0) dX6_row_0 rfl ?_
  refine ex_iload_n (pc := 1) dX6_row_1 rfl ?_
  refine cx_VL1i (pc := 2) dX6_row_2 lk_X6_87 hW rfl (Nat.le_of_ble_eq_true rfl) (Nat.le_of_ble_eq_true rfl) (by omega) (c_W_isPost hW hR (by omega) _) (fun h_2 x_2 q_2 => ?_)
  obtain ⟨e_2, f_2⟩ := q_2
  rw [e_2, f_2]
  refine ex_if_eq (pc := 5) (tgt := 17) dX6_row_5 (by decide) (fun c_5 => ?_) (fun c_5 => ?_)
  · skip
    have b_5 := bF c_5
    refine ex_ldc (pc := 17) dX6_row_17 cn_X6_73 ?_
    refine ex_ret dX6_row_19 rfl ?_
    refine qi_mk ⟨Sq.rf, ?_⟩
    simp [aRow, b_5]
  · skip
    have b_5 := bT c_5
    refine ex_iload_n (pc := 8) dX6_row_8 rfl ?_
    refine ex_bipush (pc := 9) (v := (nI 6)) dX6_row_9 (by decide) ?_
    refine cx_SL2i (pc := 11) dX6_row_11 lk_X6_69 rfl (Nat.le_of_ble_eq_true rfl) (Nat.le_of_ble_eq_true rfl) (by omega) (c_ib _ _) (fun h_11 x_11 q_11 => ?_)
    obtain ⟨e_11, f_11⟩ := q_11
    rw [e_11, f_11]
    refine ex_if_ne (pc := 14) (tgt := 20) dX6_row_14 (by decide) (fun c_14 => ?_) (fun c_14 => ?_)
    · skip
      have b_14 := bT c_14
      obtain ⟨p0, hp0, rfl⟩ := bw_ex b_5
      have i_p : ixI (nI p0) = p0 := iK (by omega)
      obtain ⟨w0, hw0, rfl⟩ := bw_ex b_14
      have i_w : ixI (nI w0) = w0 := iK (by omega)
      refine ex_aload_n (pc := 20) dX6_row_20 rfl ?_
      refine ex_get (pc := 21) dX6_row_21 fl_X6_10 hW rfl ?_
      refine ex_aload_n (pc := 24) dX6_row_24 rfl ?_
      refine ex_get (pc := 25) dX6_row_25 fl_X6_10 hW rfl ?_
      refine ex_get (pc := 28) dX6_row_28 fl_X6_90 hR.1 rfl ?_
      refine ex_iload_n (pc := 31) dX6_row_31 rfl ?_
      refine ex_aldn (k := p0) (v := .ref (g.1 + (1 + 4 + p0))) (pc := 32) dX6_row_32 rfl hfp rfl (by omega) (by decide) (congrArg va_rf (hfp2 p0 (by omega))) ?_
      refine cx_VL1l (pc := 33) dX6_row_33 lk_X6_120 hR.1 rfl (Nat.le_of_ble_eq_true rfl) (Nat.le_of_ble_eq_true rfl) (by omega) (c_R_sgt hC (by omega) hp0) (fun h_33 x_33 q_33 => ?_)
      obtain ⟨hs_33, f_33⟩ := q_33
      rw [f_33]
      refine sx_lstore_n (pc := 36) dX6_row_36 rfl (by decide) ?_
      show Ex _ _ _ _ _ _ [_, _, _, _, _] _ _ _
      refine ex_lload_n (pc := 37) dX6_row_37 rfl ?_
      refine ex_iload_n (pc := 38) dX6_row_38 rfl ?_
      refine ex_bipush (pc := 39) (v := (nI 8)) dX6_row_39 (by decide) ?_
      refine ex_imul (pc := 41) dX6_row_41 ?_
      rw [nI_mul, Nat.mul_comm]
      refine ex_lushr (pc := 42) dX6_row_42 ?_
      refine ex_l2i (pc := 43) dX6_row_43 ?_
      refine ex_sipush (pc := 44) (v := (nI 255)) dX6_row_44 (by decide) ?_
      refine ex_iand (pc := 47) dX6_row_47 ?_
      refine ex_ret dX6_row_48 rfl ?_
      refine qi_mk ⟨hs_33, ?_⟩
      rw [row_eq (by omega) (by rw [b48 (by omega)]; rfl)]
      simp only [aRow, b_5, b_14, i_p, i_w, Bool.and_self, Bool.and_true, Bool.true_and, Bool.and_false, Bool.false_and, Bool.or_true, Bool.true_or, Bool.or_false, Bool.false_or, Bool.not_true, Bool.not_false, Bool.false_eq_true, ↓reduceIte]
    · skip
      have b_14 := bF c_14
      refine ex_ldc (pc := 17) dX6_row_17 cn_X6_73 ?_
      refine ex_ret dX6_row_19 rfl ?_
      refine qi_mk ⟨Sq.rf, ?_⟩
      simp [aRow, b_5, b_14]
set_option maxHeartbeats 4000000 in
set_option maxRecDepth 100000 in
theorem c_M_row {g : Gl} {d ks : Nat} {h : AH} {z s : Nat → Int32} {n nt : Nat} (hR : MR g h z s n nt) (hd : 6 ≤ d) (p w : Int32) : Ex g mX7_row d 0 ks 0 [some (.ref (g.1 + 75)), some (.int p), some (.int w)] [] h (qi (fun h' r => Sq g h h' ∧ r = (aRow s n nt p w))) := by
  have hM := hR.1
  have hP := hR.2.1
  have hn8 := hP.2.1
  have hN := hP.1
  refine ex_aload_n (pc := 0) dX7_row_0 rfl ?_
  refine ex_iload_n (pc := 1) dX7_row_1 rfl ?_
  refine cx_VL1i (pc := 2) dX7_row_2 lk_X7_171 hM.1 rfl (Nat.le_of_ble_eq_true rfl) (Nat.le_of_ble_eq_true rfl) (by omega) (c_M_isp hM hN hn8 (by omega) _) (fun h_2 x_2 q_2 => ?_)
  obtain ⟨e_2, f_2⟩ := q_2
  rw [e_2, f_2]
  refine ex_if_eq (pc := 5) (tgt := 20) dX7_row_5 (by decide) (fun c_5 => ?_) (fun c_5 => ?_)
  · skip
    have b_5 := bF c_5
    refine ex_ldc (pc := 20) dX7_row_20 cn_X7_161 ?_
    refine ex_ret dX7_row_22 rfl ?_
    refine qi_mk ⟨Sq.rf, ?_⟩
    simp [aRow, b_5]
  · skip
    have b_5 := bT c_5
    refine ex_iload_n (pc := 8) dX7_row_8 rfl ?_
    refine ex_i2l (pc := 9) dX7_row_9 ?_
    refine ex_lconst (pc := 10) (v := 0) dX7_row_10 (by decide) ?_
    refine ex_ldc2_w (pc := 11) dX7_row_11 cn_X7_154 ?_
    refine cx_SL3i (pc := 14) dX7_row_14 lk_X7_69 rfl (Nat.le_of_ble_eq_true rfl) (Nat.le_of_ble_eq_true rfl) (by omega) (c_M_in _ (m := 6) (by decide)) (fun h_14 x_14 q_14 => ?_)
    obtain ⟨e_14, f_14⟩ := q_14
    rw [e_14, f_14]
    refine ex_if_ne (pc := 17) (tgt := 23) dX7_row_17 (by decide) (fun c_17 => ?_) (fun c_17 => ?_)
    · skip
      have b_17 := bT c_17
      obtain ⟨p0, hp0, rfl⟩ := bw_ex b_5
      have i_p : ixI (nI p0) = p0 := iK (by omega)
      obtain ⟨w0, hw0, rfl⟩ := bw_ex b_17
      have i_w : ixI (nI w0) = w0 := iK (by omega)
      refine ex_aload_n (pc := 23) dX7_row_23 rfl ?_
      refine ex_iload_n (pc := 24) dX7_row_24 rfl ?_
      refine cx_VL1l (pc := 25) dX7_row_25 lk_X7_132 hM.1 rfl (Nat.le_of_ble_eq_true rfl) (Nat.le_of_ble_eq_true rfl) (by omega) (c_M_seenBy hR (by omega) hp0) (fun h_25 x_25 q_25 => ?_)
      obtain ⟨hs_25, f_25⟩ := q_25
      rw [f_25]
      refine ex_bipush (pc := 28) (v := (nI 8)) dX7_row_28 (by decide) ?_
      refine ex_iload_n (pc := 30) dX7_row_30 rfl ?_
      refine ex_imul (pc := 31) dX7_row_31 ?_
      rw [nI_mul]
      refine ex_lshr (pc := 32) dX7_row_32 ?_
      refine ex_ldc2_w (pc := 33) dX7_row_33 cn_X7_211 ?_
      refine ex_land (pc := 36) dX7_row_36 ?_
      refine ex_l2i (pc := 37) dX7_row_37 ?_
      refine ex_ret dX7_row_38 rfl ?_
      refine qi_mk ⟨hs_25, ?_⟩
      simp only [aRow, b_5, b_17, i_p, i_w, Bool.and_self, Bool.and_true, Bool.true_and, Bool.and_false, Bool.false_and, Bool.or_true, Bool.true_or, Bool.or_false, Bool.false_or, Bool.not_true, Bool.not_false, Bool.false_eq_true, ↓reduceIte]
    · skip
      have b_17 := bF c_17
      refine ex_ldc (pc := 20) dX7_row_20 cn_X7_161 ?_
      refine ex_ret dX7_row_22 rfl ?_
      refine qi_mk ⟨Sq.rf, ?_⟩
      simp [aRow, b_5, b_17]
set_option maxHeartbeats 4000000 in
set_option maxRecDepth 100000 in
theorem c_W_watched {g : Gl} {d ks : Nat} {h : AH} {ik wc : Int32} {s : Nat → Int32} {n nt : Nat} (hW : h[0]? = some (wtC g ik wc)) (hC : CR g h 1 s n nt) (hd : 6 ≤ d) (w : Int32) : Ex g mX6_watched d 0 ks 0 [some (.ref (g.1 + 0)), some (.int w)] [] h (qi (fun h' r => Sq g h h' ∧ r = (aWatched s n nt w))) := by
  have hR := hC.1
  have hP := hC.2.1
  have hn8 := hP.2.1
  have hN := hR.2.1
  obtain ⟨fp, hfp, hfp2⟩ := hR.2.2.2.1
  refine ex_iload_n (pc := 0) dX6_watched_0 rfl ?_
  refine ex_tsw (pc := 1) (n := 4) (l0 := 0) (tg := fun j => [32, 43, 54, 65].getD j 0) (td := 76) dX6_watched_1 rfl rfl (by decide +kernel) (by decide) (by decide) (fun j_1 hj_1 c_1 => ?_) (fun c_1 => ?_)
  · rcases (show j_1 = 0 ∨ j_1 = 1 ∨ j_1 = 2 ∨ j_1 = 3 by omega) with rfl | rfl | rfl | rfl
    · show Ex _ _ _ _ _ 32 _ _ _ _
      have c_1 : _ = nI 0 := c_1
      refine ex_aload_n (pc := 32) dX6_watched_32 rfl ?_
      refine ex_get (pc := 33) dX6_watched_33 fl_X6_10 hW rfl ?_
      refine cx_VL0l (pc := 36) dX6_watched_36 lk_X6_182 hR.1 rfl (Nat.le_of_ble_eq_true rfl) (Nat.le_of_ble_eq_true rfl) (by omega) (c_R_watchedCells hC (by omega)) (fun h_36 x_36 q_36 => ?_)
      obtain ⟨hs_36, f_36⟩ := q_36
      rw [f_36]
      refine cx_SL1i (pc := 39) dX6_watched_39 lk_X6_124 rfl (Nat.le_of_ble_eq_true rfl) (Nat.le_of_ble_eq_true rfl) (by omega) (c_lbc _) (fun h_39 x_39 q_39 => ?_)
      obtain ⟨e_39, f_39⟩ := q_39
      rw [e_39, f_39]
      refine ex_ret dX6_watched_42 rfl ?_
      refine qi_mk ⟨hs_36, ?_⟩
      subst c_1
      simp only [aWatched, Bool.and_self, Bool.and_true, Bool.true_and, Bool.and_false, Bool.false_and, Bool.or_true, Bool.true_or, Bool.or_false, Bool.false_or, Bool.not_true, Bool.not_false, Bool.false_eq_true, ↓reduceIte]
    · show Ex _ _ _ _ _ 43 _ _ _ _
      have c_1 : _ = nI 1 := c_1
      refine ex_aload_n (pc := 43) dX6_watched_43 rfl ?_
      refine ex_get (pc := 44) dX6_watched_44 fl_X6_10 hW rfl ?_
      refine cx_VL0l (pc := 47) dX6_watched_47 lk_X6_186 hR.1 rfl (Nat.le_of_ble_eq_true rfl) (Nat.le_of_ble_eq_true rfl) (by omega) (c_R_blindCells hC (by omega)) (fun h_47 x_47 q_47 => ?_)
      obtain ⟨hs_47, f_47⟩ := q_47
      rw [f_47]
      refine cx_SL1i (pc := 50) dX6_watched_50 lk_X6_124 rfl (Nat.le_of_ble_eq_true rfl) (Nat.le_of_ble_eq_true rfl) (by omega) (c_lbc _) (fun h_50 x_50 q_50 => ?_)
      obtain ⟨e_50, f_50⟩ := q_50
      rw [e_50, f_50]
      refine ex_ret dX6_watched_53 rfl ?_
      refine qi_mk ⟨hs_47, ?_⟩
      subst c_1
      simp only [aWatched, show ¬ nI 1 = nI 0 by decide, Bool.and_self, Bool.and_true, Bool.true_and, Bool.and_false, Bool.false_and, Bool.or_true, Bool.true_or, Bool.or_false, Bool.false_or, Bool.not_true, Bool.not_false, Bool.false_eq_true, ↓reduceIte]
    · show Ex _ _ _ _ _ 54 _ _ _ _
      have c_1 : _ = nI 2 := c_1
      refine ex_aload_n (pc := 54) dX6_watched_54 rfl ?_
      refine ex_get (pc := 55) dX6_watched_55 fl_X6_10 hW rfl ?_
      refine cx_VL0l (pc := 58) dX6_watched_58 lk_X6_186 hR.1 rfl (Nat.le_of_ble_eq_true rfl) (Nat.le_of_ble_eq_true rfl) (by omega) (c_R_blindCells hC (by omega)) (fun h_58 x_58 q_58 => ?_)
      obtain ⟨hs_58, f_58⟩ := q_58
      rw [f_58]
      refine cx_SL1i (pc := 61) dX6_watched_61 lk_X6_189 rfl (Nat.le_of_ble_eq_true rfl) (Nat.le_of_ble_eq_true rfl) (by omega) (c_firstOf (by omega) _) (fun h_61 x_61 q_61 => ?_)
      obtain ⟨e_61, f_61⟩ := q_61
      rw [e_61, f_61]
      refine ex_ret dX6_watched_64 rfl ?_
      refine qi_mk ⟨hs_58, ?_⟩
      subst c_1
      simp only [aWatched, show ¬ nI 2 = nI 0 by decide, show ¬ nI 2 = nI 1 by decide, Bool.and_self, Bool.and_true, Bool.true_and, Bool.and_false, Bool.false_and, Bool.or_true, Bool.true_or, Bool.or_false, Bool.false_or, Bool.not_true, Bool.not_false, Bool.false_eq_true, ↓reduceIte]
    · show Ex _ _ _ _ _ 65 _ _ _ _
      have c_1 : _ = nI 3 := c_1
      refine ex_aload_n (pc := 65) dX6_watched_65 rfl ?_
      refine ex_get (pc := 66) dX6_watched_66 fl_X6_10 hW rfl ?_
      refine cx_VL0l (pc := 69) dX6_watched_69 lk_X6_192 hR.1 rfl (Nat.le_of_ble_eq_true rfl) (Nat.le_of_ble_eq_true rfl) (by omega) (c_R_guardedCells hC (by omega)) (fun h_69 x_69 q_69 => ?_)
      obtain ⟨hs_69, f_69⟩ := q_69
      rw [f_69]
      refine cx_SL1i (pc := 72) dX6_watched_72 lk_X6_124 rfl (Nat.le_of_ble_eq_true rfl) (Nat.le_of_ble_eq_true rfl) (by omega) (c_lbc _) (fun h_72 x_72 q_72 => ?_)
      obtain ⟨e_72, f_72⟩ := q_72
      rw [e_72, f_72]
      refine ex_ret dX6_watched_75 rfl ?_
      refine qi_mk ⟨hs_69, ?_⟩
      subst c_1
      simp only [aWatched, show ¬ nI 3 = nI 0 by decide, show ¬ nI 3 = nI 1 by decide, show ¬ nI 3 = nI 2 by decide, Bool.and_self, Bool.and_true, Bool.true_and, Bool.and_false, Bool.false_and, Bool.or_true, Bool.true_or, Bool.or_false, Bool.false_or, Bool.not_true, Bool.not_false, Bool.false_eq_true, ↓reduceIte]
  · skip
    have c_1_0 : ¬ _ = nI 0 := c_1 0 (by decide)
    have c_1_1 : ¬ _ = nI 1 := c_1 1 (by decide)
    have c_1_2 : ¬ _ = nI 2 := c_1 2 (by decide)
    have c_1_3 : ¬ _ = nI 3 := c_1 3 (by decide)
    refine ex_ldc (pc := 76) dX6_watched_76 cn_X6_73 ?_
    refine ex_ret dX6_watched_78 rfl ?_
    refine qi_mk ⟨Sq.rf, ?_⟩
    simp only [aWatched, c_1_0, c_1_1, c_1_2, c_1_3, Bool.and_self, Bool.and_true, Bool.true_and, Bool.and_false, Bool.false_and, Bool.or_true, Bool.true_or, Bool.or_false, Bool.false_or, Bool.not_true, Bool.not_false, Bool.false_eq_true, ↓reduceIte]
theorem orN_fst {f : Nat → Bool} : ∀ (m k : Nat), k + m ≤ 48 → orN (oN (-1) (fstB f m k)) = oN (-1000000005) (fstB f m k) := by
  intro m
  induction m with
  | zero => intro k _; rfl
  | succ m ih =>
    intro k hk
    rw [fstB]
    by_cases e : f k = true
    · rw [if_pos e]
      exact if_neg (nI_pos (by omega))
    · rw [if_neg e]
      exact ih (k + 1) (by omega)
set_option maxHeartbeats 4000000 in
set_option maxRecDepth 100000 in
theorem c_M_watched {g : Gl} {d ks : Nat} {h : AH} {z s : Nat → Int32} {n nt : Nat} (hR : MR g h z s n nt) (hd : 8 ≤ d) (w : Int32) : Ex g mX7_watched d 0 ks 0 [some (.ref (g.1 + 75)), some (.int w)] [] h (qi (fun h' r => Sq g h h' ∧ r = (aWatched s n nt w))) := by
  have hM := hR.1
  have hP := hR.2.1
  have hn8 := hP.2.1
  have hN := hP.1
  refine ex_iload_n (pc := 0) dX7_watched_0 rfl ?_
  refine ex_i2l (pc := 1) dX7_watched_1 ?_
  refine ex_lconst (pc := 2) (v := 0) dX7_watched_2 (by decide) ?_
  refine ex_ldc2_w (pc := 3) dX7_watched_3 cn_X7_159 ?_
  refine cx_SL3i (pc := 6) dX7_watched_6 lk_X7_69 rfl (Nat.le_of_ble_eq_true rfl) (Nat.le_of_ble_eq_true rfl) (by omega) (c_M_in _ (m := 4) (by decide)) (fun h_6 x_6 q_6 => ?_)
  obtain ⟨e_6, f_6⟩ := q_6
  rw [e_6, f_6]
  refine ex_if_ne (pc := 9) (tgt := 15) dX7_watched_9 (by decide) (fun c_9 => ?_) (fun c_9 => ?_)
  · skip
    have b_9 := bT c_9
    obtain ⟨w0, hw0, rfl⟩ := bw_ex b_9
    refine ex_iload_n (pc := 15) dX7_watched_15 rfl ?_
    refine ex_iconst (pc := 16) (v := (nI 1)) dX7_watched_16 (by decide) ?_
    refine ex_icmp_eq (pc := 17) (tgt := 25) dX7_watched_17 (by decide) (fun c_17 => ?_) (fun c_17 => ?_)
    · skip
      refine ex_iload_n (pc := 25) dX7_watched_25 rfl ?_
      refine ex_iconst (pc := 26) (v := (nI 1)) dX7_watched_26 (by decide) ?_
      refine ex_icmp_ne (pc := 27) (tgt := 40) dX7_watched_27 (by decide) (fun c_27 => ?_) (fun c_27 => ?_)
      · skip
        refine ex_aload_n (pc := 40) dX7_watched_40 rfl ?_
        refine cx_VL0l (pc := 41) dX7_watched_41 lk_X7_213 hM.1 rfl (Nat.le_of_ble_eq_true rfl) (Nat.le_of_ble_eq_true rfl) (by omega) (c_M_blind hR (by omega)) (fun h_41 x_41 q_41 => ?_)
        obtain ⟨hs_41, f_41⟩ := q_41
        rw [f_41]
        refine cx_SL1i (pc := 44) dX7_watched_44 lk_X7_217 rfl (Nat.le_of_ble_eq_true rfl) (Nat.le_of_ble_eq_true rfl) (by omega) (c_M_firstOf _) (fun h_44 x_44 q_44 => ?_)
        obtain ⟨e_44, f_44⟩ := q_44
        rw [e_44, f_44]
        refine cx_SL1i (pc := 47) dX7_watched_47 lk_X7_195 rfl (Nat.le_of_ble_eq_true rfl) (Nat.le_of_ble_eq_true rfl) (by omega) (c_M_orNone _) (fun h_47 x_47 q_47 => ?_)
        obtain ⟨e_47, f_47⟩ := q_47
        rw [e_47, f_47, orN_fst 48 0 (by omega)]
        refine ex_ret dX7_watched_50 rfl ?_
        exact absurd c_17 c_27
      · skip
        refine ex_aload_n (pc := 30) dX7_watched_30 rfl ?_
        refine cx_VL0l (pc := 31) dX7_watched_31 lk_X7_213 hM.1 rfl (Nat.le_of_ble_eq_true rfl) (Nat.le_of_ble_eq_true rfl) (by omega) (c_M_blind hR (by omega)) (fun h_31 x_31 q_31 => ?_)
        obtain ⟨hs_31, f_31⟩ := q_31
        rw [f_31]
        refine cx_SL1i (pc := 34) dX7_watched_34 lk_X7_176 rfl (Nat.le_of_ble_eq_true rfl) (Nat.le_of_ble_eq_true rfl) (by omega) (c_M_many _) (fun h_34 x_34 q_34 => ?_)
        obtain ⟨e_34, f_34⟩ := q_34
        rw [e_34, f_34]
        refine ex_goto (pc := 37) (tgt := 50) dX7_watched_37 (by decide) ?_
        refine ex_ret dX7_watched_50 rfl ?_
        refine qi_mk ⟨hs_31, ?_⟩
        rw [c_27]
        simp only [aWatched, show ¬ nI 1 = nI 0 by decide, Bool.and_self, Bool.and_true, Bool.true_and, Bool.and_false, Bool.false_and, Bool.or_true, Bool.true_or, Bool.or_false, Bool.false_or, Bool.not_true, Bool.not_false, Bool.false_eq_true, ↓reduceIte]
    · skip
      refine ex_iload_n (pc := 20) dX7_watched_20 rfl ?_
      refine ex_iconst (pc := 21) (v := (nI 2)) dX7_watched_21 (by decide) ?_
      refine ex_icmp_ne (pc := 22) (tgt := 51) dX7_watched_22 (by decide) (fun c_22 => ?_) (fun c_22 => ?_)
      · skip
        refine ex_aload_n (pc := 51) dX7_watched_51 rfl ?_
        refine ex_iload_n (pc := 52) dX7_watched_52 rfl ?_
        refine ex_if_ne (pc := 53) (tgt := 63) dX7_watched_53 (by decide) (fun c_53 => ?_) (fun c_53 => ?_)
        · skip
          refine ex_aload_n (pc := 63) dX7_watched_63 rfl ?_
          refine cx_VL0i (pc := 64) dX7_watched_64 lk_X7_220 hM.1 rfl (Nat.le_of_ble_eq_true rfl) (Nat.le_of_ble_eq_true rfl) (by omega) (c_M_awake hR (by omega)) (fun h_64 x_64 q_64 => ?_)
          obtain ⟨e_64, f_64⟩ := q_64
          rw [e_64, f_64]
          refine cx_VL1l (pc := 67) dX7_watched_67 lk_X7_143 hM.1 rfl (Nat.le_of_ble_eq_true rfl) (Nat.le_of_ble_eq_true rfl) (by omega) (c_M_seenByAll hR (by omega) _) (fun h_67 x_67 q_67 => ?_)
          obtain ⟨hs_67, f_67⟩ := q_67
          rw [f_67, aw_gdd hn8]
          refine cx_SL1i (pc := 70) dX7_watched_70 lk_X7_176 rfl (Nat.le_of_ble_eq_true rfl) (Nat.le_of_ble_eq_true rfl) (by omega) (c_M_many _) (fun h_70 x_70 q_70 => ?_)
          obtain ⟨e_70, f_70⟩ := q_70
          rw [e_70, f_70]
          refine ex_ret dX7_watched_73 rfl ?_
          refine qi_mk ⟨hs_67, ?_⟩
          obtain rfl : w0 = 3 := by
            have q0 : ¬ w0 = 0 := fun z => c_53 (by rw [z]; rfl)
            have q1 : ¬ w0 = 1 := fun z => c_17 (by rw [z])
            have q2 : ¬ w0 = 2 := fun z => c_22 (by rw [z])
            omega
          simp only [aWatched, show ¬ nI 3 = nI 0 by decide, show ¬ nI 3 = nI 1 by decide, show ¬ nI 3 = nI 2 by decide, Bool.and_self, Bool.and_true, Bool.true_and, Bool.and_false, Bool.false_and, Bool.or_true, Bool.true_or, Bool.or_false, Bool.false_or, Bool.not_true, Bool.not_false, Bool.false_eq_true, ↓reduceIte]
        · skip
          refine ex_aload_n (pc := 56) dX7_watched_56 rfl ?_
          refine cx_VL0i (pc := 57) dX7_watched_57 lk_X7_139 hM.1 rfl (Nat.le_of_ble_eq_true rfl) (Nat.le_of_ble_eq_true rfl) (by omega) (c_M_everybody hR) (fun h_57 x_57 q_57 => ?_)
          obtain ⟨e_57, f_57⟩ := q_57
          rw [e_57, f_57]
          refine ex_goto (pc := 60) (tgt := 67) dX7_watched_60 (by decide) ?_
          refine cx_VL1l (pc := 67) dX7_watched_67 lk_X7_143 hM.1 rfl (Nat.le_of_ble_eq_true rfl) (Nat.le_of_ble_eq_true rfl) (by omega) (c_M_seenByAll hR (by omega) _) (fun h_67 x_67 q_67 => ?_)
          obtain ⟨hs_67, f_67⟩ := q_67
          rw [f_67, all_wtc hn8]
          refine cx_SL1i (pc := 70) dX7_watched_70 lk_X7_176 rfl (Nat.le_of_ble_eq_true rfl) (Nat.le_of_ble_eq_true rfl) (by omega) (c_M_many _) (fun h_70 x_70 q_70 => ?_)
          obtain ⟨e_70, f_70⟩ := q_70
          rw [e_70, f_70]
          refine ex_ret dX7_watched_73 rfl ?_
          refine qi_mk ⟨hs_67, ?_⟩
          have c0 : nI w0 = nI 0 := c_53
          rw [c0]
          simp only [aWatched, Bool.and_self, Bool.and_true, Bool.true_and, Bool.and_false, Bool.false_and, Bool.or_true, Bool.true_or, Bool.or_false, Bool.false_or, Bool.not_true, Bool.not_false, Bool.false_eq_true, ↓reduceIte]
      · skip
        refine ex_iload_n (pc := 25) dX7_watched_25 rfl ?_
        refine ex_iconst (pc := 26) (v := (nI 1)) dX7_watched_26 (by decide) ?_
        refine ex_icmp_ne (pc := 27) (tgt := 40) dX7_watched_27 (by decide) (fun c_27 => ?_) (fun c_27 => ?_)
        · skip
          refine ex_aload_n (pc := 40) dX7_watched_40 rfl ?_
          refine cx_VL0l (pc := 41) dX7_watched_41 lk_X7_213 hM.1 rfl (Nat.le_of_ble_eq_true rfl) (Nat.le_of_ble_eq_true rfl) (by omega) (c_M_blind hR (by omega)) (fun h_41 x_41 q_41 => ?_)
          obtain ⟨hs_41, f_41⟩ := q_41
          rw [f_41]
          refine cx_SL1i (pc := 44) dX7_watched_44 lk_X7_217 rfl (Nat.le_of_ble_eq_true rfl) (Nat.le_of_ble_eq_true rfl) (by omega) (c_M_firstOf _) (fun h_44 x_44 q_44 => ?_)
          obtain ⟨e_44, f_44⟩ := q_44
          rw [e_44, f_44]
          refine cx_SL1i (pc := 47) dX7_watched_47 lk_X7_195 rfl (Nat.le_of_ble_eq_true rfl) (Nat.le_of_ble_eq_true rfl) (by omega) (c_M_orNone _) (fun h_47 x_47 q_47 => ?_)
          obtain ⟨e_47, f_47⟩ := q_47
          rw [e_47, f_47, orN_fst 48 0 (by omega)]
          refine ex_ret dX7_watched_50 rfl ?_
          refine qi_mk ⟨hs_41, ?_⟩
          rw [c_22]
          simp only [aWatched, show ¬ nI 2 = nI 0 by decide, show ¬ nI 2 = nI 1 by decide, Bool.and_self, Bool.and_true, Bool.true_and, Bool.and_false, Bool.false_and, Bool.or_true, Bool.true_or, Bool.or_false, Bool.false_or, Bool.not_true, Bool.not_false, Bool.false_eq_true, ↓reduceIte]
        · skip
          refine ex_aload_n (pc := 30) dX7_watched_30 rfl ?_
          refine cx_VL0l (pc := 31) dX7_watched_31 lk_X7_213 hM.1 rfl (Nat.le_of_ble_eq_true rfl) (Nat.le_of_ble_eq_true rfl) (by omega) (c_M_blind hR (by omega)) (fun h_31 x_31 q_31 => ?_)
          obtain ⟨hs_31, f_31⟩ := q_31
          rw [f_31]
          refine cx_SL1i (pc := 34) dX7_watched_34 lk_X7_176 rfl (Nat.le_of_ble_eq_true rfl) (Nat.le_of_ble_eq_true rfl) (by omega) (c_M_many _) (fun h_34 x_34 q_34 => ?_)
          obtain ⟨e_34, f_34⟩ := q_34
          rw [e_34, f_34]
          refine ex_goto (pc := 37) (tgt := 50) dX7_watched_37 (by decide) ?_
          refine ex_ret dX7_watched_50 rfl ?_
          refine qi_mk ⟨hs_31, ?_⟩
          rw [c_27]
          simp only [aWatched, show ¬ nI 1 = nI 0 by decide, Bool.and_self, Bool.and_true, Bool.true_and, Bool.and_false, Bool.false_and, Bool.or_true, Bool.true_or, Bool.or_false, Bool.false_or, Bool.not_true, Bool.not_false, Bool.false_eq_true, ↓reduceIte]
  · skip
    have b_9 := bF c_9
    refine ex_ldc (pc := 12) dX7_watched_12 cn_X7_161 ?_
    refine ex_ret dX7_watched_14 rfl ?_
    refine qi_mk ⟨Sq.rf, ?_⟩
    have hw : ¬ w = nI 0 ∧ ¬ w = nI 1 ∧ ¬ w = nI 2 ∧ ¬ w = nI 3 := ⟨fun e => by subst e; exact absurd b_9 (by decide), fun e => by subst e; exact absurd b_9 (by decide), fun e => by subst e; exact absurd b_9 (by decide), fun e => by subst e; exact absurd b_9 (by decide)⟩
    simp only [aWatched, hw.1, hw.2.1, hw.2.2.1, hw.2.2.2, Bool.and_self, Bool.and_true, Bool.true_and, Bool.and_false, Bool.false_and, Bool.or_true, Bool.true_or, Bool.or_false, Bool.false_or, Bool.not_true, Bool.not_false, Bool.false_eq_true, ↓reduceIte]
theorem sp_pb : ∀ n, n ≤ 8 → ∀ p, p < n → ∀ k, k < n → pb ((shl32 (nI 1) (nI n) - nI 1) &&& (shl32 (nI 1) (nI p) ^^^ (-1))) k = !(decide (k = p)) := by decide +kernel
theorem sp_any {s : Nat → Int32} {nt n p : Nat} (hn : n ≤ 8) (hp : p < n) : (fun c => anyB (fun k => pb ((shl32 (nI 1) (nI n) - nI 1) &&& (shl32 (nI 1) (nI p) ^^^ (-1))) k && sgt s nt k c) n) = (fun c => anyB (fun k => !(decide (k = p)) && sgt s nt k c) n) := by
  funext c
  exact anyB_congr (fun k hk => by rw [sp_pb n hn p hp k hk])
theorem bI_ite {p : Prop} [Decidable p] (h : p) : (1 : Int32) = bI p := (bI_t h).symm
theorem bI_itf {p : Prop} [Decidable p] (h : ¬ p) : (0 : Int32) = bI p := (bI_f h).symm
set_option maxHeartbeats 4000000 in
set_option maxRecDepth 100000 in
theorem c_W_spare_l {g : Gl} {d ks : Nat} {h : AH} {ik wc : Int32} {s : Nat → Int32} {n nt : Nat} (hW : h[0]? = some (wtC g ik wc)) (hC : CR g h 1 s n nt) (hd : 4 ≤ d) {p0 : Nat} (hp0 : p0 < n) : ∀ (m k : Nat) (h1 : AH), Sq g h h1 → k + m = n → Ex g mX6_spare d 0 ks 16 [some (.ref (g.1 + 0)), some (.int (nI p0)), some (.long (uni (fun k => !(decide (k = p0))) (fun k => setL (sgt s nt k) 48) (k))), none, some (.int (nI (k)))] [] h1 (qi (fun h' r => Sq g h h' ∧ r = bI (setL (sgt s nt p0) 48 &&& (setL (fun c => anyB (fun k => !(decide (k = p0)) && sgt s nt k c) n) 48 ^^^ (-1)) = 0))) := by
  have hn8 := hC.2.1.2.1
  intro m
  induction m with
  | zero =>
    intro k h1 hq hk
    have hC1 := hC.sq hq
    have hN1 := hC1.1.2.1
    have hW1 := hq.at (nscr (by omega)) hW
    obtain ⟨fp, hfp, hfp2⟩ := hC1.1.2.2.2.1
    refine ex_iload (pc := 16) dX6_spare_16 rfl ?_
    refine ex_aload_n (pc := 18) dX6_spare_18 rfl ?_
    refine ex_get (pc := 19) dX6_spare_19 fl_X6_10 hW1 rfl ?_
    refine ex_get (pc := 22) dX6_spare_22 fl_X6_79 hC1.1.1 rfl ?_
    refine bx_icmp_ge_t (pc := 25) (tgt := 60) dX6_spare_25 (by decide) (by rw [hN1, show k = n by omega]; exact Int32.le_refl _) ?_
    refine ex_aload_n (pc := 60) dX6_spare_60 rfl ?_
    refine ex_get (pc := 61) dX6_spare_61 fl_X6_10 hW1 rfl ?_
    refine ex_aload_n (pc := 64) dX6_spare_64 rfl ?_
    refine ex_get (pc := 65) dX6_spare_65 fl_X6_10 hW1 rfl ?_
    refine ex_get (pc := 68) dX6_spare_68 fl_X6_90 hC1.1.1 rfl ?_
    refine ex_iload_n (pc := 71) dX6_spare_71 rfl ?_
    refine ex_aldn (k := p0) (v := .ref (g.1 + (1 + 4 + p0))) (pc := 72) dX6_spare_72 rfl hfp rfl (by omega) (by decide) (congrArg va_rf (hfp2 p0 (by omega))) ?_
    refine cx_VL1l (pc := 73) dX6_spare_73 lk_X6_120 hC1.1.1 rfl (Nat.le_of_ble_eq_true rfl) (Nat.le_of_ble_eq_true rfl) (by omega) (c_R_sgt hC1 (by omega) hp0) (fun h_73 x_73 q_73 => ?_)
    obtain ⟨hs_73, f_73⟩ := q_73
    rw [f_73]
    refine ex_lload_n (pc := 76) dX6_spare_76 rfl ?_
    refine ex_ldc2_w (pc := 77) dX6_spare_77 cn_X6_157 ?_
    refine ex_lxor (pc := 80) dX6_spare_80 ?_
    refine ex_land (pc := 81) dX6_spare_81 ?_
    refine ex_lconst (pc := 82) (v := 0) dX6_spare_82 (by decide) ?_
    refine ex_lcmp (pc := 83) dX6_spare_83 ?_
    refine ex_if_ne (pc := 84) (tgt := 91) dX6_spare_84 (by decide) (fun c_84 => ?_) (fun c_84 => ?_)
    · skip
      refine ex_iconst (pc := 91) (v := (nI 0)) dX6_spare_91 (by decide) ?_
      refine cx_SL1i (pc := 92) dX6_spare_92 lk_X6_112 rfl (Nat.le_of_ble_eq_true rfl) (Nat.le_of_ble_eq_true rfl) (by omega) (c_oneIf _) (fun h_92 x_92 q_92 => ?_)
      obtain ⟨e_92, f_92⟩ := q_92
      rw [e_92, f_92]
      refine ex_ret dX6_spare_95 rfl ?_
      obtain rfl : k = n := by omega
      refine qi_mk ⟨hq.tr hs_73, ?_⟩
      rw [lg_eq0, uni_set] at c_84
      first | rw [bI_f (show ¬ ¬ (nI 0) = 0 by decide)] | skip
      exact bI_itf c_84
    · skip
      refine ex_iconst (pc := 87) (v := (nI 1)) dX6_spare_87 (by decide) ?_
      refine ex_goto (pc := 88) (tgt := 92) dX6_spare_88 (by decide) ?_
      refine cx_SL1i (pc := 92) dX6_spare_92 lk_X6_112 rfl (Nat.le_of_ble_eq_true rfl) (Nat.le_of_ble_eq_true rfl) (by omega) (c_oneIf _) (fun h_92 x_92 q_92 => ?_)
      obtain ⟨e_92, f_92⟩ := q_92
      rw [e_92, f_92]
      refine ex_ret dX6_spare_95 rfl ?_
      obtain rfl : k = n := by omega
      refine qi_mk ⟨hq.tr hs_73, ?_⟩
      rw [lg_eq0, uni_set] at c_84
      have e1 : bI (¬ (nI 1) = 0) = 1 := by decide
      first | rw [bI_t (show ¬ (nI 1) = 0 by decide)] | skip
      exact bI_ite c_84
  | succ m ih =>
    intro k h1 hq hk
    have hC1 := hC.sq hq
    have hN1 := hC1.1.2.1
    have hW1 := hq.at (nscr (by omega)) hW
    obtain ⟨fp, hfp, hfp2⟩ := hC1.1.2.2.2.1
    refine ex_iload (pc := 16) dX6_spare_16 rfl ?_
    refine ex_aload_n (pc := 18) dX6_spare_18 rfl ?_
    refine ex_get (pc := 19) dX6_spare_19 fl_X6_10 hW1 rfl ?_
    refine ex_get (pc := 22) dX6_spare_22 fl_X6_79 hC1.1.1 rfl ?_
    refine bx_icmp_ge_f (pc := 25) (tgt := 60) dX6_spare_25 (by decide) (by rw [hN1]; exact nI_ge (by omega) (by omega)) ?_
    refine ex_iload (pc := 28) dX6_spare_28 rfl ?_
    refine ex_iload_n (pc := 30) dX6_spare_30 rfl ?_
    refine ex_icmp_eq (pc := 31) (tgt := 54) dX6_spare_31 (by decide) (fun c_31 => ?_) (fun c_31 => ?_)
    · skip
      first | refine sx_inc (pc := 54) dX6_spare_54 rfl rfl (by decide) ?_ | refine sx_iinc (pc := 54) dX6_spare_54 rfl rfl (by decide) ?_
      show Ex _ _ _ _ _ _ [_, _, _, _, _] _ _ _
      refine ex_goto (pc := 57) (tgt := 16) dX6_spare_57 (by decide) ?_
      first
      | (have z := ih (k + 1) h_49 (hq.tr hs_49) (by omega)
         rw [uni, if_pos (by have : ¬ k = p0 := fun e => c_31 (by rw [e])
                             simp [this])] at z
         exact z)
      | (have z := ih (k + 1) h1 hq (by omega)
         rw [uni, if_neg (by have : k = p0 := (nI_eq (by omega) (by omega)).mp c_31
                             simp [this])] at z
         exact z)
    · skip
      refine ex_lload_n (pc := 34) dX6_spare_34 rfl ?_
      refine ex_aload_n (pc := 35) dX6_spare_35 rfl ?_
      refine ex_get (pc := 36) dX6_spare_36 fl_X6_10 hW1 rfl ?_
      refine ex_aload_n (pc := 39) dX6_spare_39 rfl ?_
      refine ex_get (pc := 40) dX6_spare_40 fl_X6_10 hW1 rfl ?_
      refine ex_get (pc := 43) dX6_spare_43 fl_X6_90 hC1.1.1 rfl ?_
      refine ex_iload (pc := 46) dX6_spare_46 rfl ?_
      refine ex_aldn (k := k) (v := .ref (g.1 + (1 + 4 + k))) (pc := 48) dX6_spare_48 rfl hfp rfl (by omega) (by decide) (congrArg va_rf (hfp2 k (by omega))) ?_
      refine cx_VL1l (pc := 49) dX6_spare_49 lk_X6_120 hC1.1.1 rfl (Nat.le_of_ble_eq_true rfl) (Nat.le_of_ble_eq_true rfl) (by omega) (c_R_sgt hC1 (by omega) (show k < n by omega)) (fun h_49 x_49 q_49 => ?_)
      obtain ⟨hs_49, f_49⟩ := q_49
      rw [f_49]
      refine ex_lor (pc := 52) dX6_spare_52 ?_
      refine sx_lstore_n (pc := 53) dX6_spare_53 rfl (by decide) ?_
      show Ex _ _ _ _ _ _ [_, _, _, _, _] _ _ _
      first | refine sx_inc (pc := 54) dX6_spare_54 rfl rfl (by decide) ?_ | refine sx_iinc (pc := 54) dX6_spare_54 rfl rfl (by decide) ?_
      show Ex _ _ _ _ _ _ [_, _, _, _, _] _ _ _
      refine ex_goto (pc := 57) (tgt := 16) dX6_spare_57 (by decide) ?_
      first
      | (have z := ih (k + 1) h_49 (hq.tr hs_49) (by omega)
         rw [uni, if_pos (by have : ¬ k = p0 := fun e => c_31 (by rw [e])
                             simp [this])] at z
         exact z)
      | (have z := ih (k + 1) h1 hq (by omega)
         rw [uni, if_neg (by have : k = p0 := (nI_eq (by omega) (by omega)).mp c_31
                             simp [this])] at z
         exact z)
set_option maxHeartbeats 4000000 in
set_option maxRecDepth 100000 in
theorem c_W_spare {g : Gl} {d ks : Nat} {h : AH} {ik wc : Int32} {s : Nat → Int32} {n nt : Nat} (hW : h[0]? = some (wtC g ik wc)) (hC : CR g h 1 s n nt) (hd : 4 ≤ d) (p : Int32) : Ex g mX6_spare d 0 ks 0 [some (.ref (g.1 + 0)), some (.int p), none, none, none] [] h (qi (fun h' r => Sq g h h' ∧ r = (aSpare s n nt p))) := by
  have hR := hC.1
  have hP := hC.2.1
  have hn8 := hP.2.1
  have hN := hR.2.1
  obtain ⟨fp, hfp, hfp2⟩ := hR.2.2.2.1
  refine ex_aload_n (pc := 0) dX6_spare_0 rfl ?_
  refine ex_iload_n (pc := 1) dX6_spare_1 rfl ?_
  refine cx_VL1i (pc := 2) dX6_spare_2 lk_X6_87 hW rfl (Nat.le_of_ble_eq_true rfl) (Nat.le_of_ble_eq_true rfl) (by omega) (c_W_isPost hW hR (by omega) _) (fun h_2 x_2 q_2 => ?_)
  obtain ⟨e_2, f_2⟩ := q_2
  rw [e_2, f_2]
  refine ex_if_ne (pc := 5) (tgt := 11) dX6_spare_5 (by decide) (fun c_5 => ?_) (fun c_5 => ?_)
  · skip
    have b_5 := bT c_5
    obtain ⟨p0, hp0, rfl⟩ := bw_ex b_5
    have i_p : ixI (nI p0) = p0 := iK (by omega)
    refine ex_lconst (pc := 11) (v := 0) dX6_spare_11 (by decide) ?_
    refine sx_lstore_n (pc := 12) dX6_spare_12 rfl (by decide) ?_
    show Ex _ _ _ _ _ _ [_, _, _, _, _] _ _ _
    refine ex_iconst (pc := 13) (v := (nI 0)) dX6_spare_13 (by decide) ?_
    refine sx_istore (pc := 14) dX6_spare_14 rfl (by decide) ?_
    show Ex _ _ _ _ _ _ [_, _, _, _, _] _ _ _
    refine (c_W_spare_l hW hC hd hp0 n 0 h Sq.rf (by omega)).mono (fun h' r a => ?_)
    obtain ⟨x, e, a1, a2⟩ := a
    exact ⟨x, e, a1, by rw [a2]; simp only [aSpare, b_5, i_p, Bool.and_self, Bool.and_true, Bool.true_and, Bool.and_false, Bool.false_and, Bool.or_true, Bool.true_or, Bool.or_false, Bool.false_or, Bool.not_true, Bool.not_false, Bool.false_eq_true, ↓reduceIte]⟩
  · skip
    have b_5 := bF c_5
    refine ex_ldc (pc := 8) dX6_spare_8 cn_X6_73 ?_
    refine ex_ret dX6_spare_10 rfl ?_
    refine qi_mk ⟨Sq.rf, ?_⟩
    simp [aSpare, b_5]
set_option maxHeartbeats 4000000 in
set_option maxRecDepth 100000 in
theorem c_M_spare {g : Gl} {d ks : Nat} {h : AH} {z s : Nat → Int32} {n nt : Nat} (hR : MR g h z s n nt) (hd : 8 ≤ d) (p : Int32) : Ex g mX7_spare d 0 ks 0 [some (.ref (g.1 + 75)), some (.int p)] [] h (qi (fun h' r => Sq g h h' ∧ r = (aSpare s n nt p))) := by
  have hM := hR.1
  have hP := hR.2.1
  have hn8 := hP.2.1
  have hN := hP.1
  refine ex_aload_n (pc := 0) dX7_spare_0 rfl ?_
  refine ex_iload_n (pc := 1) dX7_spare_1 rfl ?_
  refine cx_VL1i (pc := 2) dX7_spare_2 lk_X7_171 hM.1 rfl (Nat.le_of_ble_eq_true rfl) (Nat.le_of_ble_eq_true rfl) (by omega) (c_M_isp hM hN hn8 (by omega) _) (fun h_2 x_2 q_2 => ?_)
  obtain ⟨e_2, f_2⟩ := q_2
  rw [e_2, f_2]
  refine ex_if_ne (pc := 5) (tgt := 11) dX7_spare_5 (by decide) (fun c_5 => ?_) (fun c_5 => ?_)
  · skip
    have b_5 := bT c_5
    obtain ⟨p0, hp0, rfl⟩ := bw_ex b_5
    have i_p : ixI (nI p0) = p0 := iK (by omega)
    refine ex_aload_n (pc := 11) dX7_spare_11 rfl ?_
    refine ex_iload_n (pc := 12) dX7_spare_12 rfl ?_
    refine cx_VL1l (pc := 13) dX7_spare_13 lk_X7_132 hM.1 rfl (Nat.le_of_ble_eq_true rfl) (Nat.le_of_ble_eq_true rfl) (by omega) (c_M_seenBy hR (by omega) hp0) (fun h_13 x_13 q_13 => ?_)
    obtain ⟨hs_13, f_13⟩ := q_13
    rw [f_13]
    have hR1 := hR.sq hs_13
    have hM1 := hR1.1
    refine ex_aload_n (pc := 16) dX7_spare_16 rfl ?_
    refine ex_aload_n (pc := 17) dX7_spare_17 rfl ?_
    refine cx_VL0i (pc := 18) dX7_spare_18 lk_X7_139 hM1.1 rfl (Nat.le_of_ble_eq_true rfl) (Nat.le_of_ble_eq_true rfl) (by omega) (c_M_everybody hR1) (fun h_18 x_18 q_18 => ?_)
    obtain ⟨e_18, f_18⟩ := q_18
    rw [e_18, f_18]
    refine ex_iconst (pc := 21) (v := (nI 1)) dX7_spare_21 (by decide) ?_
    refine ex_iload_n (pc := 22) dX7_spare_22 rfl ?_
    refine ex_ishl (pc := 23) dX7_spare_23 ?_
    refine ex_iconst (pc := 24) (v := (-1)) dX7_spare_24 (by decide) ?_
    refine ex_ixor (pc := 25) dX7_spare_25 ?_
    refine ex_iand (pc := 26) dX7_spare_26 ?_
    refine cx_VL1l (pc := 27) dX7_spare_27 lk_X7_143 hM1.1 rfl (Nat.le_of_ble_eq_true rfl) (Nat.le_of_ble_eq_true rfl) (by omega) (c_M_seenByAll hR1 (by omega) _) (fun h_27 x_27 q_27 => ?_)
    obtain ⟨hs_27, f_27⟩ := q_27
    rw [f_27, sp_any hn8 hp0]
    refine ex_ldc2_w (pc := 30) dX7_spare_30 cn_X7_146 ?_
    refine ex_lxor (pc := 33) dX7_spare_33 ?_
    refine ex_land (pc := 34) dX7_spare_34 ?_
    refine ex_lconst (pc := 35) (v := 0) dX7_spare_35 (by decide) ?_
    refine ex_lcmp (pc := 36) dX7_spare_36 ?_
    refine ex_if_ne (pc := 37) (tgt := 44) dX7_spare_37 (by decide) (fun c_37 => ?_) (fun c_37 => ?_)
    · skip
      refine ex_iconst (pc := 44) (v := 0) dX7_spare_44 (by decide) ?_
      refine ex_ret dX7_spare_45 rfl ?_
      refine qi_mk ⟨hs_13.tr hs_27, ?_⟩
      simp only [aSpare, b_5, i_p, Bool.and_self, Bool.and_true, Bool.true_and, Bool.and_false, Bool.false_and, Bool.or_true, Bool.true_or, Bool.or_false, Bool.false_or, Bool.not_true, Bool.not_false, Bool.false_eq_true, ↓reduceIte]
      rw [lg_eq0] at c_37
      exact bI_itf c_37
    · skip
      refine ex_iconst (pc := 40) (v := 1) dX7_spare_40 (by decide) ?_
      refine ex_goto (pc := 41) (tgt := 45) dX7_spare_41 (by decide) ?_
      refine ex_ret dX7_spare_45 rfl ?_
      refine qi_mk ⟨hs_13.tr hs_27, ?_⟩
      simp only [aSpare, b_5, i_p, Bool.and_self, Bool.and_true, Bool.true_and, Bool.and_false, Bool.false_and, Bool.or_true, Bool.true_or, Bool.or_false, Bool.false_or, Bool.not_true, Bool.not_false, Bool.false_eq_true, ↓reduceIte]
      rw [lg_eq0] at c_37
      exact bI_ite c_37
  · skip
    have b_5 := bF c_5
    refine ex_ldc (pc := 8) dX7_spare_8 cn_X7_161 ?_
    refine ex_ret dX7_spare_10 rfl ?_
    refine qi_mk ⟨Sq.rf, ?_⟩
    simp [aSpare, b_5]

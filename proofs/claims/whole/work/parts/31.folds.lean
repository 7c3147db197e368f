/-! sets of posts and cells, sums: both sides -/
set_option maxHeartbeats 4000000 in
set_option maxRecDepth 100000 in
theorem c_R_watchedCells_l {g : Gl} {d ks : Nat} {h : AH} {b n nt : Nat} {s : Nat → Int32} (hC : CR g h b s n nt) (hd : 4 ≤ d) : ∀ (m k : Nat) (h1 : AH), Sq g h h1 → k + m = n → Ex g mX2_watchedCells d 0 ks 4 [some (.ref (g.1 + b)), some (.long (uni (fun _ => true) (fun k => setL (sgt s nt k) 48) (k))), none, some (.int (nI (k)))] [] h1 (ql (fun h' r => Sq g h h' ∧ r = uni (fun _ => true) (fun k => setL (sgt s nt k) 48) n)) := by
  have hn8 := hC.1.2.2.1
  have hb := hC.2.2.2.2
  intro m
  induction m with
  | zero =>
    intro k h1 hq hk
    have hC1 := hC.sq hq
    obtain ⟨fp, hfp, hfp2⟩ := hC1.1.2.2.2.1
    have hN := hC1.1.2.1
    refine ex_iload_n (pc := 4) dX2_watchedCells_4 rfl ?_
    refine ex_aload_n (pc := 5) dX2_watchedCells_5 rfl ?_
    refine ex_get (pc := 6) dX2_watchedCells_6 fl_X2_17 hC1.1.1 rfl ?_
    refine bx_icmp_ge_t (pc := 9) (tgt := 31) dX2_watchedCells_9 (by decide) (by rw [hN, show k = n by omega]; exact Int32.le_refl _) ?_
    refine ex_lload_n (pc := 31) dX2_watchedCells_31 rfl ?_
    refine ex_lret dX2_watchedCells_32 rfl ?_
    obtain rfl : k = n := by omega
    exact ql_mk ⟨hq, rfl⟩
  | succ m ih =>
    intro k h1 hq hk
    have hC1 := hC.sq hq
    obtain ⟨fp, hfp, hfp2⟩ := hC1.1.2.2.2.1
    have hN := hC1.1.2.1
    obtain ⟨⟨kd, hkd, ekd⟩, ⟨c, hc, ec⟩, σ, hσ, eσ⟩ := hC1.2.1.2.2 k (by omega)
    have hp : h1[b + 4 + k]? = some (po (s (10 + 4 * k + 0)) (nI c) (s (10 + 4 * k + 2)) (s (10 + 4 * k + 3))) := by rw [← ec]; exact hC1.1.2.2.2.2.1 k (by omega)
    have esg : (fun t => seeS s (s (10 + 4 * k + 0)) (s (10 + 4 * k + 2)) c (rchS s nt (s (10 + 4 * k + 0)) (s (10 + 4 * k + 3)) (s (10 + 4 * k + 2))) t) = sgt s nt k := by unfold sgt; rw [ec, nI_clamp (by omega)]
    refine ex_iload_n (pc := 4) dX2_watchedCells_4 rfl ?_
    refine ex_aload_n (pc := 5) dX2_watchedCells_5 rfl ?_
    refine ex_get (pc := 6) dX2_watchedCells_6 fl_X2_17 hC1.1.1 rfl ?_
    refine bx_icmp_ge_f (pc := 9) (tgt := 31) dX2_watchedCells_9 (by decide) (by rw [hN]; exact nI_ge (by omega) (by omega)) ?_
    refine ex_lload_n (pc := 12) dX2_watchedCells_12 rfl ?_
    refine ex_aload_n (pc := 13) dX2_watchedCells_13 rfl ?_
    refine ex_aload_n (pc := 14) dX2_watchedCells_14 rfl ?_
    refine ex_get (pc := 15) dX2_watchedCells_15 fl_X2_11 hC1.1.1 rfl ?_
    refine ex_iload_n (pc := 18) dX2_watchedCells_18 rfl ?_
    refine ex_aldn (k := k) (v := .ref (g.1 + (b + 4 + k))) (pc := 19) dX2_watchedCells_19 rfl hfp rfl (by omega) (by decide) (congrArg va_rf (hfp2 k (by omega))) ?_
    refine cx_VL1l (pc := 20) dX2_watchedCells_20 lk_X2_143 hC1.1.1 rfl (Nat.le_of_ble_eq_true rfl) (Nat.le_of_ble_eq_true rfl) (by omega) (c_R_sightOf hC1 (by omega) hp hc (by omega)) (fun h_20 x_20 q_20 => ?_)
    obtain ⟨hs_20, rfl⟩ := q_20
    refine ex_lor (pc := 23) dX2_watchedCells_23 ?_
    refine sx_lstore_n (pc := 24) dX2_watchedCells_24 rfl (by decide) ?_
    show Ex _ _ _ _ _ _ [_, _, _, _] _ _ _
    first | refine sx_inc (pc := 25) dX2_watchedCells_25 rfl rfl (by decide) ?_ | refine sx_iinc (pc := 25) dX2_watchedCells_25 rfl rfl (by decide) ?_
    show Ex _ _ _ _ _ _ [_, _, _, _] _ _ _
    refine ex_goto (pc := 28) (tgt := 4) dX2_watchedCells_28 (by decide) ?_
    rw [esg]
    have z := ih (k + 1) h_20 (hq.tr hs_20) (by omega)
    rw [uni, if_pos rfl] at z
    exact z
set_option maxHeartbeats 4000000 in
set_option maxRecDepth 100000 in
theorem c_R_watchedCells {g : Gl} {d ks : Nat} {h : AH} {b n nt : Nat} {s : Nat → Int32} (hC : CR g h b s n nt) (hd : 4 ≤ d) : Ex g mX2_watchedCells d 0 ks 0 [some (.ref (g.1 + b)), none, none, none] [] h (ql (fun h' r => Sq g h h' ∧ r = setL (wtc s nt n) 48)) := by
  refine ex_lconst (pc := 0) (v := 0) dX2_watchedCells_0 (by decide) ?_
  refine sx_lstore_n (pc := 1) dX2_watchedCells_1 rfl (by decide) ?_
  show Ex _ _ _ _ _ _ [_, _, _, _] _ _ _
  refine ex_iconst (pc := 2) (v := (nI 0)) dX2_watchedCells_2 (by decide) ?_
  refine sx_istore_n (pc := 3) dX2_watchedCells_3 rfl (by decide) ?_
  show Ex _ _ _ _ _ _ [_, _, _, _] _ _ _
  refine (c_R_watchedCells_l hC hd n 0 h Sq.rf (by omega)).mono (fun h' r q => ?_)
  obtain ⟨x, rfl, e, rfl⟩ := q
  refine ql_mk ⟨e, ?_⟩
  rw [uni_set]
  simp only [Bool.true_and]
  rfl
set_option maxHeartbeats 4000000 in
set_option maxRecDepth 100000 in
theorem c_R_guardedCells_l {g : Gl} {d ks : Nat} {h : AH} {b n nt : Nat} {s : Nat → Int32} (hC : CR g h b s n nt) (hd : 4 ≤ d) : ∀ (m k : Nat) (h1 : AH), Sq g h h1 → k + m = n → Ex g mX2_guardedCells d 0 ks 4 [some (.ref (g.1 + b)), some (.long (uni (awS s) (fun k => setL (sgt s nt k) 48) (k))), none, some (.int (nI (k)))] [] h1 (ql (fun h' r => Sq g h h' ∧ r = uni (awS s) (fun k => setL (sgt s nt k) 48) n)) := by
  have hn8 := hC.1.2.2.1
  have hb := hC.2.2.2.2
  intro m
  induction m with
  | zero =>
    intro k h1 hq hk
    have hC1 := hC.sq hq
    obtain ⟨fp, hfp, hfp2⟩ := hC1.1.2.2.2.1
    have hN := hC1.1.2.1
    refine ex_iload_n (pc := 4) dX2_guardedCells_4 rfl ?_
    refine ex_aload_n (pc := 5) dX2_guardedCells_5 rfl ?_
    refine ex_get (pc := 6) dX2_guardedCells_6 fl_X2_17 hC1.1.1 rfl ?_
    refine bx_icmp_ge_t (pc := 9) (tgt := 47) dX2_guardedCells_9 (by decide) (by rw [hN, show k = n by omega]; exact Int32.le_refl _) ?_
    refine ex_lload_n (pc := 47) dX2_guardedCells_47 rfl ?_
    refine ex_lret dX2_guardedCells_48 rfl ?_
    obtain rfl : k = n := by omega
    exact ql_mk ⟨hq, rfl⟩
  | succ m ih =>
    intro k h1 hq hk
    have hC1 := hC.sq hq
    obtain ⟨fp, hfp, hfp2⟩ := hC1.1.2.2.2.1
    have hN := hC1.1.2.1
    obtain ⟨⟨kd, hkd, ekd⟩, ⟨c, hc, ec⟩, σ, hσ, eσ⟩ := hC1.2.1.2.2 k (by omega)
    have hp : h1[b + 4 + k]? = some (po (s (10 + 4 * k + 0)) (nI c) (s (10 + 4 * k + 2)) (s (10 + 4 * k + 3))) := by rw [← ec]; exact hC1.1.2.2.2.2.1 k (by omega)
    have esg : (fun t => seeS s (s (10 + 4 * k + 0)) (s (10 + 4 * k + 2)) c (rchS s nt (s (10 + 4 * k + 0)) (s (10 + 4 * k + 3)) (s (10 + 4 * k + 2))) t) = sgt s nt k := by unfold sgt; rw [ec, nI_clamp (by omega)]
    refine ex_iload_n (pc := 4) dX2_guardedCells_4 rfl ?_
    refine ex_aload_n (pc := 5) dX2_guardedCells_5 rfl ?_
    refine ex_get (pc := 6) dX2_guardedCells_6 fl_X2_17 hC1.1.1 rfl ?_
    refine bx_icmp_ge_f (pc := 9) (tgt := 47) dX2_guardedCells_9 (by decide) (by rw [hN]; exact nI_ge (by omega) (by omega)) ?_
    refine ex_aload_n (pc := 12) dX2_guardedCells_12 rfl ?_
    refine ex_get (pc := 13) dX2_guardedCells_13 fl_X2_11 hC1.1.1 rfl ?_
    refine ex_iload_n (pc := 16) dX2_guardedCells_16 rfl ?_
    refine ex_aldn (k := k) (v := .ref (g.1 + (b + 4 + k))) (pc := 17) dX2_guardedCells_17 rfl hfp rfl (by omega) (by decide) (congrArg va_rf (hfp2 k (by omega))) ?_
    refine ex_aload_n (pc := 18) dX2_guardedCells_18 rfl ?_
    refine ex_get (pc := 19) dX2_guardedCells_19 fl_X2_40 hC1.1.1 rfl ?_
    refine cx_VL1i (pc := 22) dX2_guardedCells_22 lk_X2_147 hp rfl (Nat.le_of_ble_eq_true rfl) (Nat.le_of_ble_eq_true rfl) (by omega) (c_P_isAwake hp _) (fun h_22 x_22 q_22 => ?_)
    obtain ⟨e_22, rfl⟩ := q_22
    rw [e_22]
    refine ex_if_eq (pc := 25) (tgt := 41) dX2_guardedCells_25 (by decide) (fun c_25 => ?_) (fun c_25 => ?_)
    · skip
      first | refine sx_inc (pc := 41) dX2_guardedCells_41 rfl rfl (by decide) ?_ | refine sx_iinc (pc := 41) dX2_guardedCells_41 rfl rfl (by decide) ?_
      show Ex _ _ _ _ _ _ [_, _, _, _] _ _ _
      refine ex_goto (pc := 44) (tgt := 4) dX2_guardedCells_44 (by decide) ?_
      first
      | (rw [esg]; have z := ih (k + 1) h_36 (hq.tr hs_36) (by omega); rw [uni, if_pos (show awS s k = true from Decidable.not_not.mp (fun q => c_25 (bI_f q)))] at z; exact z)
      | (have z := ih (k + 1) h1 hq (by omega); rw [uni, if_neg (show ¬ awS s k = true from bI_0.mp c_25)] at z; exact z)
    · skip
      refine ex_lload_n (pc := 28) dX2_guardedCells_28 rfl ?_
      refine ex_aload_n (pc := 29) dX2_guardedCells_29 rfl ?_
      refine ex_aload_n (pc := 30) dX2_guardedCells_30 rfl ?_
      refine ex_get (pc := 31) dX2_guardedCells_31 fl_X2_11 hC1.1.1 rfl ?_
      refine ex_iload_n (pc := 34) dX2_guardedCells_34 rfl ?_
      refine ex_aldn (k := k) (v := .ref (g.1 + (b + 4 + k))) (pc := 35) dX2_guardedCells_35 rfl hfp rfl (by omega) (by decide) (congrArg va_rf (hfp2 k (by omega))) ?_
      refine cx_VL1l (pc := 36) dX2_guardedCells_36 lk_X2_143 hC1.1.1 rfl (Nat.le_of_ble_eq_true rfl) (Nat.le_of_ble_eq_true rfl) (by omega) (c_R_sightOf hC1 (by omega) hp hc (by omega)) (fun h_36 x_36 q_36 => ?_)
      obtain ⟨hs_36, rfl⟩ := q_36
      refine ex_lor (pc := 39) dX2_guardedCells_39 ?_
      refine sx_lstore_n (pc := 40) dX2_guardedCells_40 rfl (by decide) ?_
      show Ex _ _ _ _ _ _ [_, _, _, _] _ _ _
      first | refine sx_inc (pc := 41) dX2_guardedCells_41 rfl rfl (by decide) ?_ | refine sx_iinc (pc := 41) dX2_guardedCells_41 rfl rfl (by decide) ?_
      show Ex _ _ _ _ _ _ [_, _, _, _] _ _ _
      refine ex_goto (pc := 44) (tgt := 4) dX2_guardedCells_44 (by decide) ?_
      first
      | (rw [esg]; have z := ih (k + 1) h_36 (hq.tr hs_36) (by omega); rw [uni, if_pos (show awS s k = true from Decidable.not_not.mp (fun q => c_25 (bI_f q)))] at z; exact z)
      | (have z := ih (k + 1) h1 hq (by omega); rw [uni, if_neg (show ¬ awS s k = true from bI_0.mp c_25)] at z; exact z)
set_option maxHeartbeats 4000000 in
set_option maxRecDepth 100000 in
theorem c_R_guardedCells {g : Gl} {d ks : Nat} {h : AH} {b n nt : Nat} {s : Nat → Int32} (hC : CR g h b s n nt) (hd : 4 ≤ d) : Ex g mX2_guardedCells d 0 ks 0 [some (.ref (g.1 + b)), none, none, none] [] h (ql (fun h' r => Sq g h h' ∧ r = setL (gdd s nt n) 48)) := by
  refine ex_lconst (pc := 0) (v := 0) dX2_guardedCells_0 (by decide) ?_
  refine sx_lstore_n (pc := 1) dX2_guardedCells_1 rfl (by decide) ?_
  show Ex _ _ _ _ _ _ [_, _, _, _] _ _ _
  refine ex_iconst (pc := 2) (v := (nI 0)) dX2_guardedCells_2 (by decide) ?_
  refine sx_istore_n (pc := 3) dX2_guardedCells_3 rfl (by decide) ?_
  show Ex _ _ _ _ _ _ [_, _, _, _] _ _ _
  refine (c_R_guardedCells_l hC hd n 0 h Sq.rf (by omega)).mono (fun h' r q => ?_)
  obtain ⟨x, rfl, e, rfl⟩ := q
  refine ql_mk ⟨e, ?_⟩
  rw [uni_set]
  rfl
set_option maxHeartbeats 4000000 in
set_option maxRecDepth 100000 in
theorem c_R_blindCells {g : Gl} {d ks : Nat} {h : AH} {b n nt : Nat} {s : Nat → Int32} (hC : CR g h b s n nt) (hd : 5 ≤ d) : Ex g mX2_blindCells d 0 ks 0 [some (.ref (g.1 + b))] [] h (ql (fun h' r => Sq g h h' ∧ r = setL (bld s nt n) 48)) := by
  refine ex_ldc2_w (pc := 0) dX2_blindCells_0 cn_X2_150 ?_
  refine ex_aload_n (pc := 3) dX2_blindCells_3 rfl ?_
  refine ex_get (pc := 4) dX2_blindCells_4 fl_X2_21 hC.1.1 rfl ?_
  refine ex_ldc2_w (pc := 7) dX2_blindCells_7 cn_X2_152 ?_
  refine ex_lxor (pc := 10) dX2_blindCells_10 ?_
  refine ex_land (pc := 11) dX2_blindCells_11 ?_
  refine ex_aload_n (pc := 12) dX2_blindCells_12 rfl ?_
  refine cx_VL0l (pc := 13) dX2_blindCells_13 lk_X2_154 hC.1.1 rfl (Nat.le_of_ble_eq_true rfl) (Nat.le_of_ble_eq_true rfl) (by omega) (c_R_watchedCells hC (by omega)) (fun h_13 x_13 q_13 => ?_)
  obtain ⟨hs_13, rfl⟩ := q_13
  refine ex_ldc2_w (pc := 16) dX2_blindCells_16 cn_X2_152 ?_
  refine ex_lxor (pc := 19) dX2_blindCells_19 ?_
  refine ex_land (pc := 20) dX2_blindCells_20 ?_
  refine ex_lret dX2_blindCells_21 rfl ?_
  refine ql_mk ⟨by assumption, ?_⟩
  rw [blind_c]
  rfl
set_option maxHeartbeats 4000000 in
set_option maxRecDepth 100000 in
theorem c_M_everybody {g : Gl} {d ks : Nat} {h : AH} {z s : Nat → Int32} {n nt : Nat} (hR : MR g h z s n nt) : Ex g mX7_everybody d 0 ks 0 [some (.ref (g.1 + 75))] [] h (qi (fun h' r => h' = h ∧ r = shl32 (nI 1) (nI n) - nI 1)) := by
  refine ex_iconst (pc := 0) (v := (nI 1)) dX7_everybody_0 (by decide) ?_
  refine ex_aload_n (pc := 1) dX7_everybody_1 rfl ?_
  refine ex_get (pc := 2) dX7_everybody_2 fl_X7_7 hR.1.1 rfl ?_
  refine ex_iconst (pc := 5) (v := (nI 0)) dX7_everybody_5 (by decide) ?_
  refine ex_ildn (k := 0) (pc := 6) dX7_everybody_6 hR.1.2 (by first | rfl | (simp only [nI_add, nI_mul]; done) | (simp only [nI_add, nI_mul]; rfl)) (by omega) (by decide) ?_
  refine ex_ishl (pc := 7) dX7_everybody_7 ?_
  refine ex_iconst (pc := 8) (v := (nI 1)) dX7_everybody_8 (by decide) ?_
  refine ex_isub (pc := 9) dX7_everybody_9 ?_
  refine ex_ret dX7_everybody_10 rfl ?_
  exact qi_mk ⟨rfl, by rw [hR.2.1.1]⟩
set_option maxHeartbeats 4000000 in
set_option maxRecDepth 100000 in
theorem c_M_seenByAll_l {g : Gl} {d ks : Nat} {h : AH} {z s : Nat → Int32} {n nt : Nat} (hR : MR g h z s n nt) (hd : 6 ≤ d) (ps : Int32) : ∀ (m k : Nat) (h1 : AH), Sq g h h1 → k + m = n → Ex g mX7_seenByAll d 0 ks 5 [some (.ref (g.1 + 75)), some (.int ps), some (.long (uni (pb ps) (fun k => setL (sgt s nt k) 48) (k))), none, some (.int (nI (k)))] [] h1 (ql (fun h' r => Sq g h h' ∧ r = uni (pb ps) (fun k => setL (sgt s nt k) 48) n)) := by
  have hn8 := hR.2.1.2.1
  intro m
  induction m with
  | zero =>
    intro k h1 hq hk
    have hR1 := hR.sq hq
    have hN := hR1.2.1.1
    refine ex_iload (pc := 5) dX7_seenByAll_5 rfl ?_
    refine ex_aload_n (pc := 7) dX7_seenByAll_7 rfl ?_
    refine ex_get (pc := 8) dX7_seenByAll_8 fl_X7_7 hR1.1.1 rfl ?_
    refine ex_iconst (pc := 11) (v := (nI 0)) dX7_seenByAll_11 (by decide) ?_
    refine ex_ildn (k := 0) (pc := 12) dX7_seenByAll_12 hR1.1.2 (by first | rfl | (simp only [nI_add, nI_mul]; done) | (simp only [nI_add, nI_mul]; rfl)) (by omega) (by decide) ?_
    refine bx_icmp_ge_t (pc := 13) (tgt := 45) dX7_seenByAll_13 (by decide) (by rw [hN, show k = n by omega]; exact Int32.le_refl _) ?_
    refine ex_lload_n (pc := 45) dX7_seenByAll_45 rfl ?_
    refine ex_lret dX7_seenByAll_46 rfl ?_
    obtain rfl : k = n := by omega
    exact ql_mk ⟨hq, rfl⟩
  | succ m ih =>
    intro k h1 hq hk
    have hR1 := hR.sq hq
    have hN := hR1.2.1.1
    refine ex_iload (pc := 5) dX7_seenByAll_5 rfl ?_
    refine ex_aload_n (pc := 7) dX7_seenByAll_7 rfl ?_
    refine ex_get (pc := 8) dX7_seenByAll_8 fl_X7_7 hR1.1.1 rfl ?_
    refine ex_iconst (pc := 11) (v := (nI 0)) dX7_seenByAll_11 (by decide) ?_
    refine ex_ildn (k := 0) (pc := 12) dX7_seenByAll_12 hR1.1.2 (by first | rfl | (simp only [nI_add, nI_mul]; done) | (simp only [nI_add, nI_mul]; rfl)) (by omega) (by decide) ?_
    refine bx_icmp_ge_f (pc := 13) (tgt := 45) dX7_seenByAll_13 (by decide) (by rw [hN]; exact nI_ge (by omega) (by omega)) ?_
    refine ex_lload_n (pc := 16) dX7_seenByAll_16 rfl ?_
    refine ex_iload_n (pc := 17) dX7_seenByAll_17 rfl ?_
    refine ex_iload (pc := 18) dX7_seenByAll_18 rfl ?_
    refine ex_ishr (pc := 20) dX7_seenByAll_20 ?_
    refine ex_iconst (pc := 21) (v := (nI 1)) dX7_seenByAll_21 (by decide) ?_
    refine ex_iand (pc := 22) dX7_seenByAll_22 ?_
    refine ex_iconst (pc := 23) (v := (nI 1)) dX7_seenByAll_23 (by decide) ?_
    refine ex_icmp_ne (pc := 24) (tgt := 36) dX7_seenByAll_24 (by decide) (fun c_24 => ?_) (fun c_24 => ?_)
    · skip
      refine ex_lconst (pc := 36) (v := 0) dX7_seenByAll_36 (by decide) ?_
      refine ex_lor (pc := 37) dX7_seenByAll_37 ?_
      refine sx_lstore_n (pc := 38) dX7_seenByAll_38 rfl (by decide) ?_
      show Ex _ _ _ _ _ _ [_, _, _, _, _] _ _ _
      first | refine sx_inc (pc := 39) dX7_seenByAll_39 rfl rfl (by decide) ?_ | refine sx_iinc (pc := 39) dX7_seenByAll_39 rfl rfl (by decide) ?_
      show Ex _ _ _ _ _ _ [_, _, _, _, _] _ _ _
      refine ex_goto (pc := 42) (tgt := 5) dX7_seenByAll_42 (by decide) ?_
      first
      | (have z := ih (k + 1) h_30 (hq.tr hs_30) (by omega); rw [uni, if_pos (show pb ps k = true from decide_eq_true c_24)] at z; exact z)
      | (rw [or0L]; have z := ih (k + 1) h1 hq (by omega); rw [uni, if_neg (show ¬ pb ps k = true from fun q => c_24 (of_decide_eq_true q))] at z; exact z)
    · skip
      refine ex_aload_n (pc := 27) dX7_seenByAll_27 rfl ?_
      refine ex_iload (pc := 28) dX7_seenByAll_28 rfl ?_
      refine cx_VL1l (pc := 30) dX7_seenByAll_30 lk_X7_132 hR1.1.1 rfl (Nat.le_of_ble_eq_true rfl) (Nat.le_of_ble_eq_true rfl) (by omega) (c_M_seenBy hR1 (by omega) (show k < n by omega)) (fun h_30 x_30 q_30 => ?_)
      obtain ⟨hs_30, rfl⟩ := q_30
      refine ex_goto (pc := 33) (tgt := 37) dX7_seenByAll_33 (by decide) ?_
      refine ex_lor (pc := 37) dX7_seenByAll_37 ?_
      refine sx_lstore_n (pc := 38) dX7_seenByAll_38 rfl (by decide) ?_
      show Ex _ _ _ _ _ _ [_, _, _, _, _] _ _ _
      first | refine sx_inc (pc := 39) dX7_seenByAll_39 rfl rfl (by decide) ?_ | refine sx_iinc (pc := 39) dX7_seenByAll_39 rfl rfl (by decide) ?_
      show Ex _ _ _ _ _ _ [_, _, _, _, _] _ _ _
      refine ex_goto (pc := 42) (tgt := 5) dX7_seenByAll_42 (by decide) ?_
      first
      | (have z := ih (k + 1) h_30 (hq.tr hs_30) (by omega); rw [uni, if_pos (show pb ps k = true from decide_eq_true c_24)] at z; exact z)
      | (rw [or0L]; have z := ih (k + 1) h1 hq (by omega); rw [uni, if_neg (show ¬ pb ps k = true from fun q => c_24 (of_decide_eq_true q))] at z; exact z)
set_option maxHeartbeats 4000000 in
set_option maxRecDepth 100000 in
theorem c_M_seenByAll {g : Gl} {d ks : Nat} {h : AH} {z s : Nat → Int32} {n nt : Nat} (hR : MR g h z s n nt) (hd : 6 ≤ d) (ps : Int32) : Ex g mX7_seenByAll d 0 ks 0 [some (.ref (g.1 + 75)), some (.int ps), none, none, none] [] h (ql (fun h' r => Sq g h h' ∧ r = setL (fun c => anyB (fun k => pb ps k && sgt s nt k c) n) 48)) := by
  refine ex_lconst (pc := 0) (v := 0) dX7_seenByAll_0 (by decide) ?_
  refine sx_lstore_n (pc := 1) dX7_seenByAll_1 rfl (by decide) ?_
  show Ex _ _ _ _ _ _ [_, _, _, _, _] _ _ _
  refine ex_iconst (pc := 2) (v := (nI 0)) dX7_seenByAll_2 (by decide) ?_
  refine sx_istore (pc := 3) dX7_seenByAll_3 rfl (by decide) ?_
  show Ex _ _ _ _ _ _ [_, _, _, _, _] _ _ _
  refine (c_M_seenByAll_l hR hd ps n 0 h Sq.rf (by omega)).mono (fun h' r q => ?_)
  obtain ⟨x, rfl, e, rfl⟩ := q
  exact ql_mk ⟨e, uni_set n⟩
theorem all_wtc {s : Nat → Int32} {nt n : Nat} (hn : n ≤ 8) : (fun c => anyB (fun k => pb (shl32 (nI 1) (nI n) - nI 1) k && sgt s nt k c) n) = wtc s nt n := by
  funext c
  unfold wtc
  exact anyB_congr (fun k hk => by rw [every_b n hn k hk, Bool.true_and])
theorem aw_gdd {s : Nat → Int32} {nt n : Nat} (hn : n ≤ 8) : (fun c => anyB (fun k => pb (orS (awS s) n) k && sgt s nt k c) n) = gdd s nt n := by
  funext c
  unfold gdd
  exact anyB_congr (fun k hk => by rw [pb_orS hn hk])
set_option maxHeartbeats 4000000 in
set_option maxRecDepth 100000 in
theorem c_M_awake_l {g : Gl} {d ks : Nat} {h : AH} {z s : Nat → Int32} {n nt : Nat} (hR : MR g h z s n nt) (hd : 2 ≤ d) : ∀ (m k : Nat), k + m = n → Ex g mX7_awake d 0 ks 4 [some (.ref (g.1 + 75)), some (.int (orS (awS s) (k))), some (.int (nI (k)))] [] h (qi (fun h' r => h' = h ∧ r = orS (awS s) n)) := by
  have hn8 := hR.2.1.2.1
  have hN := hR.2.1.1
  intro m
  induction m with
  | zero =>
    intro k hk
    refine ex_iload_n (pc := 4) dX7_awake_4 rfl ?_
    refine ex_aload_n (pc := 5) dX7_awake_5 rfl ?_
    refine ex_get (pc := 6) dX7_awake_6 fl_X7_7 hR.1.1 rfl ?_
    refine ex_iconst (pc := 9) (v := (nI 0)) dX7_awake_9 (by decide) ?_
    refine ex_ildn (k := 0) (pc := 10) dX7_awake_10 hR.1.2 (by first | rfl | (simp only [nI_add, nI_mul]; done) | (simp only [nI_add, nI_mul]; rfl)) (by omega) (by decide) ?_
    refine bx_icmp_ge_t (pc := 11) (tgt := 38) dX7_awake_11 (by decide) (by rw [hN, show k = n by omega]; exact Int32.le_refl _) ?_
    refine ex_iload_n (pc := 38) dX7_awake_38 rfl ?_
    refine ex_ret dX7_awake_39 rfl ?_
    obtain rfl : k = n := by omega
    exact qi_mk ⟨rfl, rfl⟩
  | succ m ih =>
    intro k hk
    refine ex_iload_n (pc := 4) dX7_awake_4 rfl ?_
    refine ex_aload_n (pc := 5) dX7_awake_5 rfl ?_
    refine ex_get (pc := 6) dX7_awake_6 fl_X7_7 hR.1.1 rfl ?_
    refine ex_iconst (pc := 9) (v := (nI 0)) dX7_awake_9 (by decide) ?_
    refine ex_ildn (k := 0) (pc := 10) dX7_awake_10 hR.1.2 (by first | rfl | (simp only [nI_add, nI_mul]; done) | (simp only [nI_add, nI_mul]; rfl)) (by omega) (by decide) ?_
    refine bx_icmp_ge_f (pc := 11) (tgt := 38) dX7_awake_11 (by decide) (by rw [hN]; exact nI_ge (by omega) (by omega)) ?_
    refine ex_iload_n (pc := 14) dX7_awake_14 rfl ?_
    refine ex_aload_n (pc := 15) dX7_awake_15 rfl ?_
    refine ex_iload_n (pc := 16) dX7_awake_16 rfl ?_
    refine cx_VL1i (pc := 17) dX7_awake_17 lk_X7_136 hR.1.1 rfl (Nat.le_of_ble_eq_true rfl) (Nat.le_of_ble_eq_true rfl) (by omega) (c_M_isAwake hR.1 (by omega) (show k < 8 by omega)) (fun h_17 x_17 q_17 => ?_)
    obtain ⟨e_17, rfl⟩ := q_17
    rw [e_17]
    refine ex_if_eq (pc := 20) (tgt := 29) dX7_awake_20 (by decide) (fun c_20 => ?_) (fun c_20 => ?_)
    · skip
      refine ex_iconst (pc := 29) (v := (nI 0)) dX7_awake_29 (by decide) ?_
      refine ex_ior (pc := 30) dX7_awake_30 ?_
      refine sx_istore_n (pc := 31) dX7_awake_31 rfl (by decide) ?_
      show Ex _ _ _ _ _ _ [_, _, _] _ _ _
      first | refine sx_inc (pc := 32) dX7_awake_32 rfl rfl (by decide) ?_ | refine sx_iinc (pc := 32) dX7_awake_32 rfl rfl (by decide) ?_
      show Ex _ _ _ _ _ _ [_, _, _] _ _ _
      refine ex_goto (pc := 35) (tgt := 4) dX7_awake_35 (by decide) ?_
      have z := ih (k + 1) (by omega)
      rw [orS] at z
      first
      | (rw [if_pos (show awS s k = true from Decidable.not_not.mp (fun q => c_20 (bI_f q)))] at z; exact z)
      | (rw [if_neg (show ¬ awS s k = true from bI_0.mp c_20)] at z; rw [or0I]; exact z)
    · skip
      refine ex_iconst (pc := 23) (v := (nI 1)) dX7_awake_23 (by decide) ?_
      refine ex_iload_n (pc := 24) dX7_awake_24 rfl ?_
      refine ex_ishl (pc := 25) dX7_awake_25 ?_
      refine ex_goto (pc := 26) (tgt := 30) dX7_awake_26 (by decide) ?_
      refine ex_ior (pc := 30) dX7_awake_30 ?_
      refine sx_istore_n (pc := 31) dX7_awake_31 rfl (by decide) ?_
      show Ex _ _ _ _ _ _ [_, _, _] _ _ _
      first | refine sx_inc (pc := 32) dX7_awake_32 rfl rfl (by decide) ?_ | refine sx_iinc (pc := 32) dX7_awake_32 rfl rfl (by decide) ?_
      show Ex _ _ _ _ _ _ [_, _, _] _ _ _
      refine ex_goto (pc := 35) (tgt := 4) dX7_awake_35 (by decide) ?_
      have z := ih (k + 1) (by omega)
      rw [orS] at z
      first
      | (rw [if_pos (show awS s k = true from Decidable.not_not.mp (fun q => c_20 (bI_f q)))] at z; exact z)
      | (rw [if_neg (show ¬ awS s k = true from bI_0.mp c_20)] at z; rw [or0I]; exact z)
set_option maxHeartbeats 4000000 in
set_option maxRecDepth 100000 in
theorem c_M_awake {g : Gl} {d ks : Nat} {h : AH} {z s : Nat → Int32} {n nt : Nat} (hR : MR g h z s n nt) (hd : 2 ≤ d) : Ex g mX7_awake d 0 ks 0 [some (.ref (g.1 + 75)), none, none] [] h (qi (fun h' r => h' = h ∧ r = orS (awS s) n)) := by
  refine ex_iconst (pc := 0) (v := (nI 0)) dX7_awake_0 (by decide) ?_
  refine sx_istore_n (pc := 1) dX7_awake_1 rfl (by decide) ?_
  show Ex _ _ _ _ _ _ [_, _, _] _ _ _
  refine ex_iconst (pc := 2) (v := (nI 0)) dX7_awake_2 (by decide) ?_
  refine sx_istore_n (pc := 3) dX7_awake_3 rfl (by decide) ?_
  show Ex _ _ _ _ _ _ [_, _, _] _ _ _
  exact c_M_awake_l hR hd n 0 (by omega)
set_option maxHeartbeats 4000000 in
set_option maxRecDepth 100000 in
theorem c_R_awakePosts_l {g : Gl} {d ks : Nat} {h : AH} {b n : Nat} {s : Nat → Int32} (hR : RoomB g h b s n) (hd : 1 ≤ d) : ∀ (m k : Nat), k + m = n → Ex g mX2_awakePosts d 0 ks 4 [some (.ref (g.1 + b)), some (.int (orS (awS s) (k))), some (.int (nI (k)))] [] h (qi (fun h' r => h' = h ∧ r = orS (awS s) n)) := by
  have hn8 := hR.2.2.1
  have hN := hR.2.1
  obtain ⟨fp, hfp, hfp2⟩ := hR.2.2.2.1
  intro m
  induction m with
  | zero =>
    intro k hk
    refine ex_iload_n (pc := 4) dX2_awakePosts_4 rfl ?_
    refine ex_aload_n (pc := 5) dX2_awakePosts_5 rfl ?_
    refine ex_get (pc := 6) dX2_awakePosts_6 fl_X2_17 hR.1 rfl ?_
    refine bx_icmp_ge_t (pc := 9) (tgt := 40) dX2_awakePosts_9 (by decide) (by rw [hN, show k = n by omega]; exact Int32.le_refl _) ?_
    refine ex_iload_n (pc := 40) dX2_awakePosts_40 rfl ?_
    refine ex_ret dX2_awakePosts_41 rfl ?_
    obtain rfl : k = n := by omega
    exact qi_mk ⟨rfl, rfl⟩
  | succ m ih =>
    intro k hk
    refine ex_iload_n (pc := 4) dX2_awakePosts_4 rfl ?_
    refine ex_aload_n (pc := 5) dX2_awakePosts_5 rfl ?_
    refine ex_get (pc := 6) dX2_awakePosts_6 fl_X2_17 hR.1 rfl ?_
    refine bx_icmp_ge_f (pc := 9) (tgt := 40) dX2_awakePosts_9 (by decide) (by rw [hN]; exact nI_ge (by omega) (by omega)) ?_
    refine ex_aload_n (pc := 12) dX2_awakePosts_12 rfl ?_
    refine ex_get (pc := 13) dX2_awakePosts_13 fl_X2_11 hR.1 rfl ?_
    refine ex_iload_n (pc := 16) dX2_awakePosts_16 rfl ?_
    refine ex_aldn (k := k) (v := .ref (g.1 + (b + 4 + k))) (pc := 17) dX2_awakePosts_17 rfl hfp rfl (by omega) (by decide) (congrArg va_rf (hfp2 k (by omega))) ?_
    refine ex_aload_n (pc := 18) dX2_awakePosts_18 rfl ?_
    refine ex_get (pc := 19) dX2_awakePosts_19 fl_X2_40 hR.1 rfl ?_
    refine cx_VL1i (pc := 22) dX2_awakePosts_22 lk_X2_147 (hR.2.2.2.2.1 k (by omega)) rfl (Nat.le_of_ble_eq_true rfl) (Nat.le_of_ble_eq_true rfl) (by omega) (c_P_isAwake (hR.2.2.2.2.1 k (by omega)) _) (fun h_22 x_22 q_22 => ?_)
    obtain ⟨e_22, rfl⟩ := q_22
    rw [e_22]
    refine ex_if_eq (pc := 25) (tgt := 34) dX2_awakePosts_25 (by decide) (fun c_25 => ?_) (fun c_25 => ?_)
    · skip
      first | refine sx_inc (pc := 34) dX2_awakePosts_34 rfl rfl (by decide) ?_ | refine sx_iinc (pc := 34) dX2_awakePosts_34 rfl rfl (by decide) ?_
      show Ex _ _ _ _ _ _ [_, _, _] _ _ _
      refine ex_goto (pc := 37) (tgt := 4) dX2_awakePosts_37 (by decide) ?_
      have z := ih (k + 1) (by omega)
      rw [orS] at z
      first
      | (rw [if_pos (show awS s k = true from Decidable.not_not.mp (fun q => c_25 (bI_f q)))] at z; exact z)
      | (rw [if_neg (show ¬ awS s k = true from bI_0.mp c_25)] at z; exact z)
    · skip
      refine ex_iload_n (pc := 28) dX2_awakePosts_28 rfl ?_
      refine ex_iconst (pc := 29) (v := (nI 1)) dX2_awakePosts_29 (by decide) ?_
      refine ex_iload_n (pc := 30) dX2_awakePosts_30 rfl ?_
      refine ex_ishl (pc := 31) dX2_awakePosts_31 ?_
      refine ex_ior (pc := 32) dX2_awakePosts_32 ?_
      refine sx_istore_n (pc := 33) dX2_awakePosts_33 rfl (by decide) ?_
      show Ex _ _ _ _ _ _ [_, _, _] _ _ _
      first | refine sx_inc (pc := 34) dX2_awakePosts_34 rfl rfl (by decide) ?_ | refine sx_iinc (pc := 34) dX2_awakePosts_34 rfl rfl (by decide) ?_
      show Ex _ _ _ _ _ _ [_, _, _] _ _ _
      refine ex_goto (pc := 37) (tgt := 4) dX2_awakePosts_37 (by decide) ?_
      have z := ih (k + 1) (by omega)
      rw [orS] at z
      first
      | (rw [if_pos (show awS s k = true from Decidable.not_not.mp (fun q => c_25 (bI_f q)))] at z; exact z)
      | (rw [if_neg (show ¬ awS s k = true from bI_0.mp c_25)] at z; exact z)
set_option maxHeartbeats 4000000 in
set_option maxRecDepth 100000 in
theorem c_R_awakePosts {g : Gl} {d ks : Nat} {h : AH} {b n : Nat} {s : Nat → Int32} (hR : RoomB g h b s n) (hd : 1 ≤ d) : Ex g mX2_awakePosts d 0 ks 0 [some (.ref (g.1 + b)), none, none] [] h (qi (fun h' r => h' = h ∧ r = orS (awS s) n)) := by
  refine ex_iconst (pc := 0) (v := (nI 0)) dX2_awakePosts_0 (by decide) ?_
  refine sx_istore_n (pc := 1) dX2_awakePosts_1 rfl (by decide) ?_
  show Ex _ _ _ _ _ _ [_, _, _] _ _ _
  refine ex_iconst (pc := 2) (v := (nI 0)) dX2_awakePosts_2 (by decide) ?_
  refine sx_istore_n (pc := 3) dX2_awakePosts_3 rfl (by decide) ?_
  show Ex _ _ _ _ _ _ [_, _, _] _ _ _
  exact c_R_awakePosts_l hR hd n 0 (by omega)
abbrev trd (s : Nat → Int32) (n : Nat) : Int32 := smF (fun k => s (10 + 4 * k + 3)) n
set_option maxHeartbeats 4000000 in
set_option maxRecDepth 100000 in
theorem c_R_tiredOfAll_l {g : Gl} {d ks : Nat} {h : AH} {b n : Nat} {s : Nat → Int32} (hR : RoomB g h b s n) : ∀ (m k : Nat), k + m = n → Ex g mX2_tiredOfAll d 0 ks 4 [some (.ref (g.1 + b)), some (.int (trd s (k))), some (.int (nI (k)))] [] h (qi (fun h' r => h' = h ∧ r = trd s n)) := by
  have hn8 := hR.2.2.1
  have hN := hR.2.1
  obtain ⟨fp, hfp, hfp2⟩ := hR.2.2.2.1
  intro m
  induction m with
  | zero =>
    intro k hk
    refine ex_iload_n (pc := 4) dX2_tiredOfAll_4 rfl ?_
    refine ex_aload_n (pc := 5) dX2_tiredOfAll_5 rfl ?_
    refine ex_get (pc := 6) dX2_tiredOfAll_6 fl_X2_17 hR.1 rfl ?_
    refine bx_icmp_ge_t (pc := 9) (tgt := 30) dX2_tiredOfAll_9 (by decide) (by rw [hN, show k = n by omega]; exact Int32.le_refl _) ?_
    refine ex_iload_n (pc := 30) dX2_tiredOfAll_30 rfl ?_
    refine ex_ret dX2_tiredOfAll_31 rfl ?_
    obtain rfl : k = n := by omega
    exact qi_mk ⟨rfl, rfl⟩
  | succ m ih =>
    intro k hk
    refine ex_iload_n (pc := 4) dX2_tiredOfAll_4 rfl ?_
    refine ex_aload_n (pc := 5) dX2_tiredOfAll_5 rfl ?_
    refine ex_get (pc := 6) dX2_tiredOfAll_6 fl_X2_17 hR.1 rfl ?_
    refine bx_icmp_ge_f (pc := 9) (tgt := 30) dX2_tiredOfAll_9 (by decide) (by rw [hN]; exact nI_ge (by omega) (by omega)) ?_
    refine ex_iload_n (pc := 12) dX2_tiredOfAll_12 rfl ?_
    refine ex_aload_n (pc := 13) dX2_tiredOfAll_13 rfl ?_
    refine ex_get (pc := 14) dX2_tiredOfAll_14 fl_X2_11 hR.1 rfl ?_
    refine ex_iload_n (pc := 17) dX2_tiredOfAll_17 rfl ?_
    refine ex_aldn (k := k) (v := .ref (g.1 + (b + 4 + k))) (pc := 18) dX2_tiredOfAll_18 rfl hfp rfl (by omega) (by decide) (congrArg va_rf (hfp2 k (by omega))) ?_
    refine ex_get (pc := 19) dX2_tiredOfAll_19 fl_X2_95 (hR.2.2.2.2.1 k (by omega)) rfl ?_
    refine ex_iadd (pc := 22) dX2_tiredOfAll_22 ?_
    refine sx_istore_n (pc := 23) dX2_tiredOfAll_23 rfl (by decide) ?_
    show Ex _ _ _ _ _ _ [_, _, _] _ _ _
    first | refine sx_inc (pc := 24) dX2_tiredOfAll_24 rfl rfl (by decide) ?_ | refine sx_iinc (pc := 24) dX2_tiredOfAll_24 rfl rfl (by decide) ?_
    show Ex _ _ _ _ _ _ [_, _, _] _ _ _
    refine ex_goto (pc := 27) (tgt := 4) dX2_tiredOfAll_27 (by decide) ?_
    exact ih (k + 1) (by omega)
set_option maxHeartbeats 4000000 in
set_option maxRecDepth 100000 in
theorem c_R_tiredOfAll {g : Gl} {d ks : Nat} {h : AH} {b n : Nat} {s : Nat → Int32} (hR : RoomB g h b s n) : Ex g mX2_tiredOfAll d 0 ks 0 [some (.ref (g.1 + b)), none, none] [] h (qi (fun h' r => h' = h ∧ r = trd s n)) := by
  refine ex_iconst (pc := 0) (v := (nI 0)) dX2_tiredOfAll_0 (by decide) ?_
  refine sx_istore_n (pc := 1) dX2_tiredOfAll_1 rfl (by decide) ?_
  show Ex _ _ _ _ _ _ [_, _, _] _ _ _
  refine ex_iconst (pc := 2) (v := (nI 0)) dX2_tiredOfAll_2 (by decide) ?_
  refine sx_istore_n (pc := 3) dX2_tiredOfAll_3 rfl (by decide) ?_
  show Ex _ _ _ _ _ _ [_, _, _] _ _ _
  exact c_R_tiredOfAll_l hR n 0 (by omega)
set_option maxHeartbeats 4000000 in
set_option maxRecDepth 100000 in
theorem c_M_tiredOfAll_l {g : Gl} {d ks : Nat} {h : AH} {z s : Nat → Int32} (hM : Ms g h z s) {n : Nat} (hn : s 0 = nI n) (hn8 : n ≤ 8) (hd : 1 ≤ d) : ∀ (m k : Nat), k + m = n → Ex g mX7_tiredOfAll d 0 ks 4 [some (.ref (g.1 + 75)), some (.int (trd s (k))), some (.int (nI (k)))] [] h (qi (fun h' r => h' = h ∧ r = trd s n)) := by
  intro m
  induction m with
  | zero =>
    intro k hk
    refine ex_iload_n (pc := 4) dX7_tiredOfAll_4 rfl ?_
    refine ex_aload_n (pc := 5) dX7_tiredOfAll_5 rfl ?_
    refine ex_get (pc := 6) dX7_tiredOfAll_6 fl_X7_7 hM.1 rfl ?_
    refine ex_iconst (pc := 9) (v := (nI 0)) dX7_tiredOfAll_9 (by decide) ?_
    refine ex_ildn (k := 0) (pc := 10) dX7_tiredOfAll_10 hM.2 (by first | rfl | (simp only [nI_add, nI_mul]; done) | (simp only [nI_add, nI_mul]; rfl)) (by omega) (by decide) ?_
    refine bx_icmp_ge_t (pc := 11) (tgt := 29) dX7_tiredOfAll_11 (by decide) (by rw [hn, show k = n by omega]; exact Int32.le_refl _) ?_
    refine ex_iload_n (pc := 29) dX7_tiredOfAll_29 rfl ?_
    refine ex_ret dX7_tiredOfAll_30 rfl ?_
    obtain rfl : k = n := by omega
    exact qi_mk ⟨rfl, rfl⟩
  | succ m ih =>
    intro k hk
    refine ex_iload_n (pc := 4) dX7_tiredOfAll_4 rfl ?_
    refine ex_aload_n (pc := 5) dX7_tiredOfAll_5 rfl ?_
    refine ex_get (pc := 6) dX7_tiredOfAll_6 fl_X7_7 hM.1 rfl ?_
    refine ex_iconst (pc := 9) (v := (nI 0)) dX7_tiredOfAll_9 (by decide) ?_
    refine ex_ildn (k := 0) (pc := 10) dX7_tiredOfAll_10 hM.2 (by first | rfl | (simp only [nI_add, nI_mul]; done) | (simp only [nI_add, nI_mul]; rfl)) (by omega) (by decide) ?_
    refine bx_icmp_ge_f (pc := 11) (tgt := 29) dX7_tiredOfAll_11 (by decide) (by rw [hn]; exact nI_ge (by omega) (by omega)) ?_
    refine ex_iload_n (pc := 14) dX7_tiredOfAll_14 rfl ?_
    refine ex_aload_n (pc := 15) dX7_tiredOfAll_15 rfl ?_
    refine ex_iload_n (pc := 16) dX7_tiredOfAll_16 rfl ?_
    refine ex_iconst (pc := 17) (v := (nI 3)) dX7_tiredOfAll_17 (by decide) ?_
    refine cx_VL2i (pc := 18) dX7_tiredOfAll_18 lk_X7_76 hM.1 rfl (Nat.le_of_ble_eq_true rfl) (Nat.le_of_ble_eq_true rfl) (by omega) (c_M_of hM (k := k) (f := 3) (by omega)) (fun h_18 x_18 q_18 => ?_)
    obtain ⟨e_18, rfl⟩ := q_18
    rw [e_18]
    refine ex_iadd (pc := 21) dX7_tiredOfAll_21 ?_
    refine sx_istore_n (pc := 22) dX7_tiredOfAll_22 rfl (by decide) ?_
    show Ex _ _ _ _ _ _ [_, _, _] _ _ _
    first | refine sx_inc (pc := 23) dX7_tiredOfAll_23 rfl rfl (by decide) ?_ | refine sx_iinc (pc := 23) dX7_tiredOfAll_23 rfl rfl (by decide) ?_
    show Ex _ _ _ _ _ _ [_, _, _] _ _ _
    refine ex_goto (pc := 26) (tgt := 4) dX7_tiredOfAll_26 (by decide) ?_
    exact ih (k + 1) (by omega)
set_option maxHeartbeats 4000000 in
set_option maxRecDepth 100000 in
theorem c_M_tiredOfAll {g : Gl} {d ks : Nat} {h : AH} {z s : Nat → Int32} (hM : Ms g h z s) {n : Nat} (hn : s 0 = nI n) (hn8 : n ≤ 8) (hd : 1 ≤ d) : Ex g mX7_tiredOfAll d 0 ks 0 [some (.ref (g.1 + 75)), none, none] [] h (qi (fun h' r => h' = h ∧ r = trd s n)) := by
  refine ex_iconst (pc := 0) (v := (nI 0)) dX7_tiredOfAll_0 (by decide) ?_
  refine sx_istore_n (pc := 1) dX7_tiredOfAll_1 rfl (by decide) ?_
  show Ex _ _ _ _ _ _ [_, _, _] _ _ _
  refine ex_iconst (pc := 2) (v := (nI 0)) dX7_tiredOfAll_2 (by decide) ?_
  refine sx_istore_n (pc := 3) dX7_tiredOfAll_3 rfl (by decide) ?_
  show Ex _ _ _ _ _ _ [_, _, _] _ _ _
  exact c_M_tiredOfAll_l hM hn hn8 hd n 0 (by omega)

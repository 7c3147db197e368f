/-! public calls: fee, fine, why, what a text tells -/
def aFee (s : Nat → Int32) (nt : Nat) : Int32 := match cntS s nt (nI 1) with
  | none => s 5
  | some t => txv s t (tLS s t) (nmF 1 (s 5) (s 6) (nI 0))
def aFin (s : Nat → Int32) (nt p : Nat) : Int32 := match cntS s nt (nI 2) with
  | none => s (10 + 4 * p + 2)
  | some t => txv s t (tLS s t) (nmF 2 (s (10 + 4 * p + 3)) (s (10 + 4 * p + 1)) (nI 0))
def aFine (s : Nat → Int32) (n nt : Nat) (p : Int32) : Int32 := if bw p n then aFin s nt (ixI p) else -1000000001
def aWhy (s : Nat → Int32) (nt : Nat) (key : Int32) : Int32 := if bw key 3 then oN (-1000000005) (cntS s nt key) else -1000000001
def aTextTold (s : Nat → Int32) (nt : Nat) (t w : Int32) : Int32 := if bw t nt && bw w 2 then s (90 + 200 * ixI t + ixI w) else -1000000001
set_option maxHeartbeats 4000000 in
set_option maxRecDepth 100000 in
theorem c_W_fee {g : Gl} {d ks : Nat} {h : AH} {ik wc : Int32} {s : Nat → Int32} {n nt : Nat} (hW : h[0]? = some (wtC g ik wc)) (hC : CR g h 1 s n nt) (hd : 2 ≤ d) : Ex g mX6_fee d 0 ks 0 [some (.ref (g.1 + 0)), none] [] h (qi (fun h' r => Sq g h h' ∧ r = aFee s nt)) := by
  obtain ⟨ft, fl, tx, h2, h3, htx, hl⟩ := hC.2.2.2.1
  have hnt2 := hC.2.2.1.2.1
  have hn8 := hC.2.1.2.1
  cases hc : cntS s nt (nI 1) with
  | none =>
    refine ex_aload_n (pc := 0) dX6_fee_0 rfl ?_
    refine ex_get (pc := 1) dX6_fee_1 fl_X6_10 hW rfl ?_
    refine ex_iconst (pc := 4) (v := (nI 1)) dX6_fee_4 (by decide) ?_
    refine cx_VL1r (pc := 5) dX6_fee_5 lk_X6_235 hC.1.1 rfl (Nat.le_of_ble_eq_true rfl) (Nat.le_of_ble_eq_true rfl) (by omega) (c_R_countingText_n hC h2 h3 (key := 1) (by omega) (hl 1 (by omega)) (by omega) hc) (fun h_5 x_5 q_5 => ?_)
    obtain ⟨e_5, rfl⟩ := q_5
    rw [e_5]
    refine sx_astore_nN (pc := 8) dX6_fee_8 rfl (by decide) ?_
    show Ex _ _ _ _ _ _ [_, _] _ _ _
    refine ex_aload_nN (pc := 9) dX6_fee_9 rfl ?_
    refine ex_ifnonnullN (pc := 10) dX6_fee_10 ?_
    refine ex_aload_n (pc := 13) dX6_fee_13 rfl ?_
    refine ex_get (pc := 14) dX6_fee_14 fl_X6_10 hW rfl ?_
    refine ex_get (pc := 17) dX6_fee_17 fl_X6_209 hC.1.1 rfl ?_
    refine ex_goto (pc := 20) (tgt := 42) dX6_fee_20 (by decide) ?_
    refine ex_ret dX6_fee_42 rfl ?_
    refine qi_mk ⟨Sq.rf, ?_⟩
    rw [aFee, hc]
  | some t =>
    obtain ⟨ht, hkey⟩ := lstF_lt hc
    obtain ⟨he, ky, L, lv, hok, f, fs, t1, t2, t3, t4⟩ := htx t ht
    have hky : ky = 1 := by
      have e1 := hok.1
      rw [hkey] at e1
      exact ((nI_eq (by omega) (by have := hok.2.1; omega)).mp e1).symm
    subst hky
    have hop : ∀ k, k < L → opC f (s 5) (s 6) (nI 0) k = opM (whS s t) (vS s t) (nmF 1 (s 5) (s 6) (nI 0)) k := fun k hk => enc_op (by omega) (hok.2.2.2.2.1 k hk) (t4 k hk)
    have hwC : wfO (opC f (s 5) (s 6) (nI 0)) L lv := wfO_tag (fun k hk => by rw [hop k hk]) (hok.wf (nmF 1 (s 5) (s 6) (nI 0)))
    refine ex_aload_n (pc := 0) dX6_fee_0 rfl ?_
    refine ex_get (pc := 1) dX6_fee_1 fl_X6_10 hW rfl ?_
    refine ex_iconst (pc := 4) (v := (nI 1)) dX6_fee_4 (by decide) ?_
    refine cx_VL1r (pc := 5) dX6_fee_5 lk_X6_235 hC.1.1 rfl (Nat.le_of_ble_eq_true rfl) (Nat.le_of_ble_eq_true rfl) (by omega) (c_R_countingText_s hC h2 h3 (key := 1) (by omega) (hl 1 (by omega)) (by omega) hc he) (fun h_5 x_5 q_5 => ?_)
    obtain ⟨e_5, rfl⟩ := q_5
    rw [e_5]
    refine sx_astore_n (pc := 8) dX6_fee_8 rfl (by decide) ?_
    show Ex _ _ _ _ _ _ [_, _] _ _ _
    refine ex_aload_n (pc := 9) dX6_fee_9 rfl ?_
    refine ex_ifnonnull (pc := 10) (tgt := 23) dX6_fee_10 (by decide) ?_
    refine ex_aload_n (pc := 23) dX6_fee_23 rfl ?_
    refine ex_aload_n (pc := 24) dX6_fee_24 rfl ?_
    refine ex_get (pc := 25) dX6_fee_25 fl_X6_10 hW rfl ?_
    refine ex_get (pc := 28) dX6_fee_28 fl_X6_209 hC.1.1 rfl ?_
    refine ex_aload_n (pc := 31) dX6_fee_31 rfl ?_
    refine ex_get (pc := 32) dX6_fee_32 fl_X6_10 hW rfl ?_
    refine ex_get (pc := 35) dX6_fee_35 fl_X6_239 hC.1.1 rfl ?_
    refine ex_iconst (pc := 38) (v := (nI 0)) dX6_fee_38 (by decide) ?_
    refine cx_VL3i (pc := 39) dX6_fee_39 lk_X6_242 t1 rfl (Nat.le_of_ble_eq_true rfl) (Nat.le_of_ble_eq_true rfl) (by omega) (c_T_work (by omega) t1 t2 t3 hwC (by omega) (by omega)) (fun h_39 x_39 q_39 => ?_)
    obtain ⟨e_39, rfl⟩ := q_39
    rw [e_39]
    refine ex_ret dX6_fee_42 rfl ?_
    refine qi_mk ⟨Sq.st (Or.inr (Or.inr ⟨by omega, by omega⟩)) t3, ?_⟩
    rw [aFee, hc]
    show _ = txv s t (tLS s t) _
    rw [tLS_eq hok, ← txv_eq hok (nm := nmF 1 (s 5) (s 6) (nI 0)) (fs := fs) (fun _ _ => rfl), (pil_op (f := fs) hop L (Nat.le_refl _)).1]
set_option maxHeartbeats 4000000 in
set_option maxRecDepth 100000 in
theorem c_W_fine_1 {g : Gl} {d ks : Nat} {h : AH} {ik wc : Int32} {s : Nat → Int32} {n nt : Nat} (hW : h[0]? = some (wtC g ik wc)) (hC : CR g h 1 s n nt) (hd : 2 ≤ d) {p0 : Nat} (hp0 : p0 < n) : Ex g mX6_fine d 0 ks 11 [some (.ref (g.1 + 0)), some (.int (nI p0)), none, none] [] h (qi (fun h' r => Sq g h h' ∧ r = aFin s nt p0)) := by
  obtain ⟨ft, fl, tx, h2, h3, htx, hl⟩ := hC.2.2.2.1
  have hnt2 := hC.2.2.1.2.1
  have hn8 := hC.2.1.2.1
  obtain ⟨fp, hfp, hfp2⟩ := hC.1.2.2.2.1
  have hpp := hC.1.2.2.2.2.1 p0 hp0
  cases hc : cntS s nt (nI 2) with
  | none =>
    refine ex_aload_n (pc := 11) dX6_fine_11 rfl ?_
    refine ex_get (pc := 12) dX6_fine_12 fl_X6_10 hW rfl ?_
    refine ex_get (pc := 15) dX6_fine_15 fl_X6_90 hC.1.1 rfl ?_
    refine ex_iload_n (pc := 18) dX6_fine_18 rfl ?_
    refine ex_aldn (k := p0) (v := .ref (g.1 + (1 + 4 + p0))) (pc := 19) dX6_fine_19 rfl hfp rfl (by omega) (by decide) (congrArg va_rf (hfp2 p0 (by omega))) ?_
    refine sx_astore_n (pc := 20) dX6_fine_20 rfl (by decide) ?_
    show Ex _ _ _ _ _ _ [_, _, _, _] _ _ _
    refine ex_aload_n (pc := 21) dX6_fine_21 rfl ?_
    refine ex_get (pc := 22) dX6_fine_22 fl_X6_10 hW rfl ?_
    refine ex_iconst (pc := 25) (v := (nI 2)) dX6_fine_25 (by decide) ?_
    refine cx_VL1r (pc := 26) dX6_fine_26 lk_X6_235 hC.1.1 rfl (Nat.le_of_ble_eq_true rfl) (Nat.le_of_ble_eq_true rfl) (by omega) (c_R_countingText_n hC h2 h3 (key := 2) (by omega) (hl 2 (by omega)) (by omega) hc) (fun h_26 x_26 q_26 => ?_)
    obtain ⟨e_26, rfl⟩ := q_26
    rw [e_26]
    refine sx_astore_nN (pc := 29) dX6_fine_29 rfl (by decide) ?_
    show Ex _ _ _ _ _ _ [_, _, _, _] _ _ _
    refine ex_aload_nN (pc := 30) dX6_fine_30 rfl ?_
    refine ex_ifnonnullN (pc := 31) dX6_fine_31 ?_
    refine ex_aload_n (pc := 34) dX6_fine_34 rfl ?_
    refine ex_get (pc := 35) dX6_fine_35 fl_X6_100 hpp rfl ?_
    refine ex_goto (pc := 38) (tgt := 54) dX6_fine_38 (by decide) ?_
    refine ex_ret dX6_fine_54 rfl ?_
    refine qi_mk ⟨Sq.rf, ?_⟩
    rw [aFin, hc]
  | some t =>
    obtain ⟨ht, hkey⟩ := lstF_lt hc
    obtain ⟨he, ky, L, lv, hok, f, fs, t1, t2, t3, t4⟩ := htx t ht
    have hky : ky = 2 := by
      have e1 := hok.1
      rw [hkey] at e1
      exact ((nI_eq (by omega) (by have := hok.2.1; omega)).mp e1).symm
    subst hky
    have hop : ∀ k, k < L → opC f (s (10 + 4 * p0 + 3)) (s (10 + 4 * p0 + 1)) (nI 0) k = opM (whS s t) (vS s t) (nmF 2 (s (10 + 4 * p0 + 3)) (s (10 + 4 * p0 + 1)) (nI 0)) k := fun k hk => enc_op (by omega) (hok.2.2.2.2.1 k hk) (t4 k hk)
    have hwC : wfO (opC f (s (10 + 4 * p0 + 3)) (s (10 + 4 * p0 + 1)) (nI 0)) L lv := wfO_tag (fun k hk => by rw [hop k hk]) (hok.wf (nmF 2 (s (10 + 4 * p0 + 3)) (s (10 + 4 * p0 + 1)) (nI 0)))
    refine ex_aload_n (pc := 11) dX6_fine_11 rfl ?_
    refine ex_get (pc := 12) dX6_fine_12 fl_X6_10 hW rfl ?_
    refine ex_get (pc := 15) dX6_fine_15 fl_X6_90 hC.1.1 rfl ?_
    refine ex_iload_n (pc := 18) dX6_fine_18 rfl ?_
    refine ex_aldn (k := p0) (v := .ref (g.1 + (1 + 4 + p0))) (pc := 19) dX6_fine_19 rfl hfp rfl (by omega) (by decide) (congrArg va_rf (hfp2 p0 (by omega))) ?_
    refine sx_astore_n (pc := 20) dX6_fine_20 rfl (by decide) ?_
    show Ex _ _ _ _ _ _ [_, _, _, _] _ _ _
    refine ex_aload_n (pc := 21) dX6_fine_21 rfl ?_
    refine ex_get (pc := 22) dX6_fine_22 fl_X6_10 hW rfl ?_
    refine ex_iconst (pc := 25) (v := (nI 2)) dX6_fine_25 (by decide) ?_
    refine cx_VL1r (pc := 26) dX6_fine_26 lk_X6_235 hC.1.1 rfl (Nat.le_of_ble_eq_true rfl) (Nat.le_of_ble_eq_true rfl) (by omega) (c_R_countingText_s hC h2 h3 (key := 2) (by omega) (hl 2 (by omega)) (by omega) hc he) (fun h_26 x_26 q_26 => ?_)
    obtain ⟨e_26, rfl⟩ := q_26
    rw [e_26]
    refine sx_astore_n (pc := 29) dX6_fine_29 rfl (by decide) ?_
    show Ex _ _ _ _ _ _ [_, _, _, _] _ _ _
    refine ex_aload_n (pc := 30) dX6_fine_30 rfl ?_
    refine ex_ifnonnull (pc := 31) (tgt := 41) dX6_fine_31 (by decide) ?_
    refine ex_aload_n (pc := 41) dX6_fine_41 rfl ?_
    refine ex_aload_n (pc := 42) dX6_fine_42 rfl ?_
    refine ex_get (pc := 43) dX6_fine_43 fl_X6_103 hpp rfl ?_
    refine ex_aload_n (pc := 46) dX6_fine_46 rfl ?_
    refine ex_get (pc := 47) dX6_fine_47 fl_X6_97 hpp rfl ?_
    refine ex_iconst (pc := 50) (v := (nI 0)) dX6_fine_50 (by decide) ?_
    refine cx_VL3i (pc := 51) dX6_fine_51 lk_X6_242 t1 rfl (Nat.le_of_ble_eq_true rfl) (Nat.le_of_ble_eq_true rfl) (by omega) (c_T_work (by omega) t1 t2 t3 hwC (by omega) (by omega)) (fun h_51 x_51 q_51 => ?_)
    obtain ⟨e_51, rfl⟩ := q_51
    rw [e_51]
    refine ex_ret dX6_fine_54 rfl ?_
    refine qi_mk ⟨Sq.st (Or.inr (Or.inr ⟨by omega, by omega⟩)) t3, ?_⟩
    rw [aFin, hc]
    show _ = txv s t (tLS s t) _
    rw [tLS_eq hok, ← txv_eq hok (nm := nmF 2 (s (10 + 4 * p0 + 3)) (s (10 + 4 * p0 + 1)) (nI 0)) (fs := fs) (fun _ _ => rfl), (pil_op (f := fs) hop L (Nat.le_refl _)).1]
set_option maxHeartbeats 4000000 in
set_option maxRecDepth 100000 in
theorem c_W_fine {g : Gl} {d ks : Nat} {h : AH} {ik wc : Int32} {s : Nat → Int32} {n nt : Nat} (hW : h[0]? = some (wtC g ik wc)) (hC : CR g h 1 s n nt) (hd : 2 ≤ d) (p : Int32) : Ex g mX6_fine d 0 ks 0 [some (.ref (g.1 + 0)), some (.int p), none, none] [] h (qi (fun h' r => Sq g h h' ∧ r = aFine s n nt p)) := by
  have hR := hC.1
  have hP := hC.2.1
  have hn8 := hP.2.1
  have hN := hR.2.1
  obtain ⟨fp, hfp, hfp2⟩ := hR.2.2.2.1
  refine ex_aload_n (pc := 0) dX6_fine_0 rfl ?_
  refine ex_iload_n (pc := 1) dX6_fine_1 rfl ?_
  refine cx_VL1i (pc := 2) dX6_fine_2 lk_X6_87 hW rfl (Nat.le_of_ble_eq_true rfl) (Nat.le_of_ble_eq_true rfl) (by omega) (c_W_isPost hW hR (by omega) _) (fun h_2 x_2 q_2 => ?_)
  obtain ⟨e_2, f_2⟩ := q_2
  rw [e_2, f_2]
  refine ex_if_ne (pc := 5) (tgt := 11) dX6_fine_5 (by decide) (fun c_5 => ?_) (fun c_5 => ?_)
  · skip
    have b_5 := bT c_5
    obtain ⟨p0, hp0, rfl⟩ := bw_ex b_5
    have i_p : ixI (nI p0) = p0 := iK (by omega)
    refine (c_W_fine_1 hW hC hd hp0).mono (fun h' r a => ?_)
    obtain ⟨x, e, a1, a2⟩ := a
    exact ⟨x, e, a1, by rw [a2]; simp only [aFine, b_5, i_p, Bool.and_self, Bool.and_true, Bool.true_and, Bool.and_false, Bool.false_and, Bool.or_true, Bool.true_or, Bool.or_false, Bool.false_or, Bool.not_true, Bool.not_false, Bool.false_eq_true, ↓reduceIte]⟩
  · skip
    have b_5 := bF c_5
    refine ex_ldc (pc := 8) dX6_fine_8 cn_X6_73 ?_
    refine ex_ret dX6_fine_10 rfl ?_
    refine qi_mk ⟨Sq.rf, ?_⟩
    simp [aFine, b_5]
set_option maxHeartbeats 4000000 in
set_option maxRecDepth 100000 in
theorem c_M_fee {g : Gl} {d ks : Nat} {h : AH} {z s : Nat → Int32} {n nt : Nat} (hR : MR g h z s n nt) (hd : 2 ≤ d) : Ex g mX7_fee d 0 ks 0 [some (.ref (g.1 + 75)), none] [] h (qi (fun h' r => Sq g h h' ∧ r = aFee s nt)) := by
  obtain ⟨hM, hPo, hT, ⟨nm, hnm⟩, fpp, hfpp⟩ := hR
  have hnt2 := hT.2.1
  have hn8 := hPo.2.1
  cases hc : cntS s nt (nI 1) with
  | none =>
    refine ex_aload_n (pc := 0) dX7_fee_0 rfl ?_
    refine ex_iconst (pc := 1) (v := (nI 1)) dX7_fee_1 (by decide) ?_
    refine cx_VL1i (pc := 2) dX7_fee_2 lk_X7_88 hM.1 rfl (Nat.le_of_ble_eq_true rfl) (Nat.le_of_ble_eq_true rfl) (by omega) (c_M_counts hM hT.1 hT.2.1 (by omega) _) (fun h_2 x_2 q_2 => ?_)
    obtain ⟨e_2, rfl⟩ := q_2
    rw [e_2]
    rw [hc]
    refine sx_istore_n (pc := 5) dX7_fee_5 rfl (by decide) ?_
    show Ex _ _ _ _ _ _ [_, _] _ _ _
    refine ex_iload_n (pc := 6) dX7_fee_6 rfl ?_
    refine bx_if_ge_f (pc := 7) (tgt := 17) dX7_fee_7 (by decide) (by show ¬ (0 : Int32) ≤ -1; decide) ?_
    refine ex_aload_n (pc := 10) dX7_fee_10 rfl ?_
    refine ex_get (pc := 11) dX7_fee_11 fl_X7_7 hM.1 rfl ?_
    refine ex_iconst (pc := 14) (v := (nI 5)) dX7_fee_14 (by decide) ?_
    refine ex_ildn (k := 5) (pc := 15) dX7_fee_15 hM.2 rfl (by decide) (by decide) ?_
    refine ex_ret dX7_fee_16 rfl ?_
    exact qi_mk ⟨Sq.rf, by rw [aFee, hc]⟩
  | some t =>
    obtain ⟨ht, hkey⟩ := lstF_lt hc
    obtain ⟨ky, L, lv, hok⟩ := hT.2.2 t ht
    refine ex_aload_n (pc := 0) dX7_fee_0 rfl ?_
    refine ex_iconst (pc := 1) (v := (nI 1)) dX7_fee_1 (by decide) ?_
    refine cx_VL1i (pc := 2) dX7_fee_2 lk_X7_88 hM.1 rfl (Nat.le_of_ble_eq_true rfl) (Nat.le_of_ble_eq_true rfl) (by omega) (c_M_counts hM hT.1 hT.2.1 (by omega) _) (fun h_2 x_2 q_2 => ?_)
    obtain ⟨e_2, rfl⟩ := q_2
    rw [e_2]
    rw [hc]
    refine sx_istore_n (pc := 5) dX7_fee_5 rfl (by decide) ?_
    show Ex _ _ _ _ _ _ [_, _] _ _ _
    refine ex_iload_n (pc := 6) dX7_fee_6 rfl ?_
    refine bx_if_ge_t (pc := 7) (tgt := 17) dX7_fee_7 (by decide) (nI_pos' (show t < 2147483648 by omega)) ?_
    refine ex_aload_n (pc := 17) dX7_fee_17 rfl ?_
    refine ex_get (pc := 18) dX7_fee_18 fl_X7_53 hM.1 rfl ?_
    refine ex_bipush (pc := 21) (v := (nI 99)) dX7_fee_21 (by decide) ?_
    refine ex_aload_n (pc := 23) dX7_fee_23 rfl ?_
    refine ex_get (pc := 24) dX7_fee_24 fl_X7_7 hM.1 rfl ?_
    refine ex_iconst (pc := 27) (v := (nI 5)) dX7_fee_27 (by decide) ?_
    refine ex_ildn (k := 5) (pc := 28) dX7_fee_28 hM.2 rfl (by decide) (by decide) ?_
    refine ex_istn (k := 99) (pc := 29) dX7_fee_29 hnm rfl (by decide) (by decide) ?_
    refine ex_aload_n (pc := 30) dX7_fee_30 rfl ?_
    refine ex_get (pc := 31) dX7_fee_31 fl_X7_53 (gs_ne (by decide) hM.1) rfl ?_
    refine ex_bipush (pc := 34) (v := (nI 117)) dX7_fee_34 (by decide) ?_
    refine ex_aload_n (pc := 36) dX7_fee_36 rfl ?_
    refine ex_get (pc := 37) dX7_fee_37 fl_X7_7 (gs_ne (by decide) hM.1) rfl ?_
    refine ex_bipush (pc := 40) (v := (nI 6)) dX7_fee_40 (by decide) ?_
    refine ex_ildn (k := 6) (pc := 42) dX7_fee_42 (gs_ne (by decide) hM.2) rfl (by decide) (by decide) ?_
    refine ex_istn (k := 117) (pc := 43) dX7_fee_43 (gs_eq hnm) rfl (by decide) (by decide) ?_
    simp only [List.set_set]
    have hMs : Ms g (h.set 90 (ia g 128 (upd (upd nm 99 (s 5)) 117 (s 6)))) z s := ⟨gs_ne (by decide) hM.1, gs_ne (by decide) hM.2⟩
    refine ex_aload_n (pc := 44) dX7_fee_44 rfl ?_
    refine ex_iload_n (pc := 45) dX7_fee_45 rfl ?_
    refine cx_VL1i (pc := 46) dX7_fee_46 lk_X7_91 hMs.1 rfl (Nat.le_of_ble_eq_true rfl) (Nat.le_of_ble_eq_true rfl) (by omega) (c_M_worked hMs (t := t) (lv := lv) (nm := upd (upd nm 99 (s 5)) 117 (s 6)) (fs := fpp) (by omega) (by omega) (gs_eq hnm) (gs_ne (by decide) hfpp) hok.txm (hok.wf _)) (fun h_46 x_46 q_46 => ?_)
    obtain ⟨e_46, rfl⟩ := q_46
    rw [e_46]
    refine ex_ret dX7_fee_49 rfl ?_
    refine qi_mk ⟨(Sq.st (Or.inl rfl) hnm).tr (Sq.st (Or.inr (Or.inl rfl)) (gs_ne (by decide) hfpp)), ?_⟩
    rw [aFee, hc]
    show _ = txv s t (tLS s t) _
    rw [tLS_eq hok, txv_eq hok (nm' := nmF 1 (s 5) (s 6) (nI 0))]
    intro p hp
    have hky : ky = 1 := by
      have e1 := hok.1
      rw [hkey] at e1
      exact ((nI_eq (by omega) (by have := hok.2.1; omega)).mp e1).symm
    subst hky
    have hp3 : p = 0 ∨ p = 1 := by unfold nlt at hp; simp at hp; omega
    rcases hp3 with rfl | rfl <;> rfl
set_option maxHeartbeats 4000000 in
set_option maxRecDepth 100000 in
theorem c_M_fine_1 {g : Gl} {d ks : Nat} {h : AH} {z s : Nat → Int32} {n nt : Nat} (hR : MR g h z s n nt) (hd : 2 ≤ d) {p0 : Nat} (hp0 : p0 < n) : Ex g mX7_fine d 0 ks 11 [some (.ref (g.1 + 75)), some (.int (nI p0)), none] [] h (qi (fun h' r => Sq g h h' ∧ r = aFin s nt p0)) := by
  obtain ⟨hM, hPo, hT, ⟨nm, hnm⟩, fpp, hfpp⟩ := hR
  have hnt2 := hT.2.1
  have hn8 := hPo.2.1
  cases hc : cntS s nt (nI 2) with
  | none =>
    refine ex_aload_n (pc := 11) dX7_fine_11 rfl ?_
    refine ex_iconst (pc := 12) (v := (nI 2)) dX7_fine_12 (by decide) ?_
    refine cx_VL1i (pc := 13) dX7_fine_13 lk_X7_88 hM.1 rfl (Nat.le_of_ble_eq_true rfl) (Nat.le_of_ble_eq_true rfl) (by omega) (c_M_counts hM hT.1 hT.2.1 (by omega) _) (fun h_13 x_13 q_13 => ?_)
    obtain ⟨e_13, rfl⟩ := q_13
    rw [e_13]
    rw [hc]
    refine sx_istore_n (pc := 16) dX7_fine_16 rfl (by decide) ?_
    show Ex _ _ _ _ _ _ [_, _, _] _ _ _
    refine ex_iload_n (pc := 17) dX7_fine_17 rfl ?_
    refine bx_if_ge_f (pc := 18) (tgt := 28) dX7_fine_18 (by decide) (by show ¬ (0 : Int32) ≤ -1; decide) ?_
    refine ex_aload_n (pc := 21) dX7_fine_21 rfl ?_
    refine ex_iload_n (pc := 22) dX7_fine_22 rfl ?_
    refine ex_iconst (pc := 23) (v := (nI 2)) dX7_fine_23 (by decide) ?_
    refine cx_VL2i (pc := 24) dX7_fine_24 lk_X7_76 hM.1 rfl (Nat.le_of_ble_eq_true rfl) (Nat.le_of_ble_eq_true rfl) (by omega) (c_M_of hM (k := p0) (f := 2) (by omega)) (fun h_24 x_24 q_24 => ?_)
    obtain ⟨e_24, f_24⟩ := q_24
    rw [e_24, f_24]
    refine ex_ret dX7_fine_27 rfl ?_
    exact qi_mk ⟨Sq.rf, by rw [aFin, hc]⟩
  | some t =>
    obtain ⟨ht, hkey⟩ := lstF_lt hc
    obtain ⟨ky, L, lv, hok⟩ := hT.2.2 t ht
    refine ex_aload_n (pc := 11) dX7_fine_11 rfl ?_
    refine ex_iconst (pc := 12) (v := (nI 2)) dX7_fine_12 (by decide) ?_
    refine cx_VL1i (pc := 13) dX7_fine_13 lk_X7_88 hM.1 rfl (Nat.le_of_ble_eq_true rfl) (Nat.le_of_ble_eq_true rfl) (by omega) (c_M_counts hM hT.1 hT.2.1 (by omega) _) (fun h_13 x_13 q_13 => ?_)
    obtain ⟨e_13, rfl⟩ := q_13
    rw [e_13]
    rw [hc]
    refine sx_istore_n (pc := 16) dX7_fine_16 rfl (by decide) ?_
    show Ex _ _ _ _ _ _ [_, _, _] _ _ _
    refine ex_iload_n (pc := 17) dX7_fine_17 rfl ?_
    refine bx_if_ge_t (pc := 18) (tgt := 28) dX7_fine_18 (by decide) (nI_pos' (show t < 2147483648 by omega)) ?_
    refine ex_aload_n (pc := 28) dX7_fine_28 rfl ?_
    refine ex_get (pc := 29) dX7_fine_29 fl_X7_53 hM.1 rfl ?_
    refine ex_bipush (pc := 32) (v := (nI 116)) dX7_fine_32 (by decide) ?_
    refine ex_aload_n (pc := 34) dX7_fine_34 rfl ?_
    refine ex_iload_n (pc := 35) dX7_fine_35 rfl ?_
    refine ex_iconst (pc := 36) (v := (nI 3)) dX7_fine_36 (by decide) ?_
    refine cx_VL2i (pc := 37) dX7_fine_37 lk_X7_76 hM.1 rfl (Nat.le_of_ble_eq_true rfl) (Nat.le_of_ble_eq_true rfl) (by omega) (c_M_of hM (k := p0) (f := 3) (by omega)) (fun h_37 x_37 q_37 => ?_)
    obtain ⟨e_37, f_37⟩ := q_37
    rw [e_37, f_37]
    refine ex_istn (k := 116) (pc := 40) dX7_fine_40 hnm rfl (by decide) (by decide) ?_
    have hM2 : Ms g (h.set 90 (ia g 128 (upd nm 116 (s (10 + 4 * p0 + 3))))) z s := ⟨gs_ne (by decide) hM.1, gs_ne (by decide) hM.2⟩
    refine ex_aload_n (pc := 41) dX7_fine_41 rfl ?_
    refine ex_get (pc := 42) dX7_fine_42 fl_X7_53 hM2.1 rfl ?_
    refine ex_bipush (pc := 45) (v := (nI 99)) dX7_fine_45 (by decide) ?_
    refine ex_aload_n (pc := 47) dX7_fine_47 rfl ?_
    refine ex_iload_n (pc := 48) dX7_fine_48 rfl ?_
    refine ex_iconst (pc := 49) (v := (nI 1)) dX7_fine_49 (by decide) ?_
    refine cx_VL2i (pc := 50) dX7_fine_50 lk_X7_76 hM2.1 rfl (Nat.le_of_ble_eq_true rfl) (Nat.le_of_ble_eq_true rfl) (by omega) (c_M_of hM2 (k := p0) (f := 1) (by omega)) (fun h_50 x_50 q_50 => ?_)
    obtain ⟨e_50, f_50⟩ := q_50
    rw [e_50, f_50]
    refine ex_istn (k := 99) (pc := 53) dX7_fine_53 (gs_eq hnm) rfl (by decide) (by decide) ?_
    simp only [List.set_set]
    have hMs : Ms g (h.set 90 (ia g 128 (upd (upd nm 116 (s (10 + 4 * p0 + 3))) 99 (s (10 + 4 * p0 + 1))))) z s := ⟨gs_ne (by decide) hM.1, gs_ne (by decide) hM.2⟩
    refine ex_aload_n (pc := 54) dX7_fine_54 rfl ?_
    refine ex_iload_n (pc := 55) dX7_fine_55 rfl ?_
    refine cx_VL1i (pc := 56) dX7_fine_56 lk_X7_91 hMs.1 rfl (Nat.le_of_ble_eq_true rfl) (Nat.le_of_ble_eq_true rfl) (by omega) (c_M_worked hMs (t := t) (lv := lv) (nm := upd (upd nm 116 (s (10 + 4 * p0 + 3))) 99 (s (10 + 4 * p0 + 1))) (fs := fpp) (by omega) (by omega) (gs_eq hnm) (gs_ne (by decide) hfpp) hok.txm (hok.wf _)) (fun h_56 x_56 q_56 => ?_)
    obtain ⟨e_56, rfl⟩ := q_56
    rw [e_56]
    refine ex_ret dX7_fine_59 rfl ?_
    refine qi_mk ⟨(Sq.st (Or.inl rfl) hnm).tr (Sq.st (Or.inr (Or.inl rfl)) (gs_ne (by decide) hfpp)), ?_⟩
    rw [aFin, hc]
    show _ = txv s t (tLS s t) _
    rw [tLS_eq hok, txv_eq hok (nm' := nmF 2 (s (10 + 4 * p0 + 3)) (s (10 + 4 * p0 + 1)) (nI 0))]
    intro p hp
    have hky : ky = 2 := by
      have e1 := hok.1
      rw [hkey] at e1
      exact ((nI_eq (by omega) (by have := hok.2.1; omega)).mp e1).symm
    subst hky
    have hp3 : p = 0 ∨ p = 1 := by unfold nlt at hp; simp at hp; omega
    rcases hp3 with rfl | rfl <;> rfl
set_option maxHeartbeats 4000000 in
set_option maxRecDepth 100000 in
theorem c_M_fine {g : Gl} {d ks : Nat} {h : AH} {z s : Nat → Int32} {n nt : Nat} (hR : MR g h z s n nt) (hd : 2 ≤ d) (p : Int32) : Ex g mX7_fine d 0 ks 0 [some (.ref (g.1 + 75)), some (.int p), none] [] h (qi (fun h' r => Sq g h h' ∧ r = aFine s n nt p)) := by
  have hM := hR.1
  have hP := hR.2.1
  have hn8 := hP.2.1
  have hN := hP.1
  refine ex_aload_n (pc := 0) dX7_fine_0 rfl ?_
  refine ex_iload_n (pc := 1) dX7_fine_1 rfl ?_
  refine cx_VL1i (pc := 2) dX7_fine_2 lk_X7_171 hM.1 rfl (Nat.le_of_ble_eq_true rfl) (Nat.le_of_ble_eq_true rfl) (by omega) (c_M_isp hM hN hn8 (by omega) _) (fun h_2 x_2 q_2 => ?_)
  obtain ⟨e_2, f_2⟩ := q_2
  rw [e_2, f_2]
  refine ex_if_ne (pc := 5) (tgt := 11) dX7_fine_5 (by decide) (fun c_5 => ?_) (fun c_5 => ?_)
  · skip
    have b_5 := bT c_5
    obtain ⟨p0, hp0, rfl⟩ := bw_ex b_5
    have i_p : ixI (nI p0) = p0 := iK (by omega)
    refine (c_M_fine_1 hR hd hp0).mono (fun h' r a => ?_)
    obtain ⟨x, e, a1, a2⟩ := a
    exact ⟨x, e, a1, by rw [a2]; simp only [aFine, b_5, i_p, Bool.and_self, Bool.and_true, Bool.true_and, Bool.and_false, Bool.false_and, Bool.or_true, Bool.true_or, Bool.or_false, Bool.false_or, Bool.not_true, Bool.not_false, Bool.false_eq_true, ↓reduceIte]⟩
  · skip
    have b_5 := bF c_5
    refine ex_ldc (pc := 8) dX7_fine_8 cn_X7_161 ?_
    refine ex_ret dX7_fine_10 rfl ?_
    refine qi_mk ⟨Sq.rf, ?_⟩
    simp [aFine, b_5]
theorem orN_cnt {s : Nat → Int32} {nt : Nat} (h : nt ≤ 14) (key : Int32) : orN (oN (-1) (cntS s nt key)) = oN (-1000000005) (cntS s nt key) := by
  unfold orN
  cases e : cntS s nt key with
  | none => exact if_pos (by show (-1 : Int32) < 0; decide)
  | some j =>
    obtain ⟨h2, _⟩ := lstF_lt e
    exact if_neg (nI_pos (by omega))
set_option maxHeartbeats 4000000 in
set_option maxRecDepth 100000 in
theorem c_W_why {g : Gl} {d ks : Nat} {h : AH} {ik wc : Int32} {s : Nat → Int32} {n nt : Nat} (hW : h[0]? = some (wtC g ik wc)) (hC : CR g h 1 s n nt) (hd : 1 ≤ d) (key : Int32) : Ex g mX6_why d 0 ks 0 [some (.ref (g.1 + 0)), some (.int key), none] [] h (qi (fun h' r => h' = h ∧ r = aWhy s nt key)) := by
  have hR := hC.1
  have hP := hC.2.1
  have hn8 := hP.2.1
  have hN := hR.2.1
  obtain ⟨fp, hfp, hfp2⟩ := hR.2.2.2.1
  obtain ⟨ft, fl, tx, h2, h3, htx, hl⟩ := hC.2.2.2.1
  refine ex_iload_n (pc := 0) dX6_why_0 rfl ?_
  refine ex_iconst (pc := 1) (v := (nI 3)) dX6_why_1 (by decide) ?_
  refine cx_SL2i (pc := 2) dX6_why_2 lk_X6_69 rfl (Nat.le_of_ble_eq_true rfl) (Nat.le_of_ble_eq_true rfl) (by omega) (c_ib _ _) (fun h_2 x_2 q_2 => ?_)
  obtain ⟨e_2, f_2⟩ := q_2
  rw [e_2, f_2]
  refine ex_if_ne (pc := 5) (tgt := 11) dX6_why_5 (by decide) (fun c_5 => ?_) (fun c_5 => ?_)
  · skip
    have b_5 := bT c_5
    obtain ⟨k0, hk0, rfl⟩ := bw_ex b_5
    refine ex_aload_n (pc := 11) dX6_why_11 rfl ?_
    refine ex_get (pc := 12) dX6_why_12 fl_X6_10 hW rfl ?_
    refine ex_get (pc := 15) dX6_why_15 fl_X6_278 hR.1 rfl ?_
    refine ex_iload_n (pc := 18) dX6_why_18 rfl ?_
    refine ex_ildn (k := k0) (pc := 19) dX6_why_19 h3 rfl (by omega) (by decide) ?_
    rw [hl k0 (by omega)]
    refine sx_istore_n (pc := 20) dX6_why_20 rfl (by decide) ?_
    show Ex _ _ _ _ _ _ [_, _, _] _ _ _
    refine ex_iload_n (pc := 21) dX6_why_21 rfl ?_
    refine ex_if_ge (pc := 22) (tgt := 30) dX6_why_22 (by decide) (fun c_22 => ?_) (fun c_22 => ?_)
    · skip
      refine ex_iload_n (pc := 30) dX6_why_30 rfl ?_
      refine ex_ret dX6_why_31 rfl ?_
      refine qi_mk ⟨rfl, ?_⟩
      have z := orN_cnt (s := s) hC.2.2.1.2.1 (nI k0)
      unfold orN at z
      rw [if_neg (Int32.not_lt.mpr c_22)] at z
      simp only [aWhy, b_5, z, Bool.and_self, Bool.and_true, Bool.true_and, Bool.and_false, Bool.false_and, Bool.or_true, Bool.true_or, Bool.or_false, Bool.false_or, Bool.not_true, Bool.not_false, Bool.false_eq_true, ↓reduceIte]
    · skip
      refine ex_ldc (pc := 25) dX6_why_25 cn_X6_142 ?_
      refine ex_goto (pc := 27) (tgt := 31) dX6_why_27 (by decide) ?_
      refine ex_ret dX6_why_31 rfl ?_
      refine qi_mk ⟨rfl, ?_⟩
      have z := orN_cnt (s := s) hC.2.2.1.2.1 (nI k0)
      unfold orN at z
      rw [if_pos (Int32.not_le.mp c_22)] at z
      simp only [aWhy, b_5, ← z, Bool.and_self, Bool.and_true, Bool.true_and, Bool.and_false, Bool.false_and, Bool.or_true, Bool.true_or, Bool.or_false, Bool.false_or, Bool.not_true, Bool.not_false, Bool.false_eq_true, ↓reduceIte]
  · skip
    have b_5 := bF c_5
    refine ex_ldc (pc := 8) dX6_why_8 cn_X6_73 ?_
    refine ex_ret dX6_why_10 rfl ?_
    refine qi_mk ⟨rfl, ?_⟩
    simp [aWhy, b_5]
set_option maxHeartbeats 4000000 in
set_option maxRecDepth 100000 in
theorem c_M_why {g : Gl} {d ks : Nat} {h : AH} {z s : Nat → Int32} {n nt : Nat} (hR : MR g h z s n nt) (hd : 2 ≤ d) (key : Int32) : Ex g mX7_why d 0 ks 0 [some (.ref (g.1 + 75)), some (.int key)] [] h (qi (fun h' r => h' = h ∧ r = aWhy s nt key)) := by
  have hM := hR.1
  have hP := hR.2.1
  have hn8 := hP.2.1
  have hN := hP.1
  refine ex_iload_n (pc := 0) dX7_why_0 rfl ?_
  refine ex_i2l (pc := 1) dX7_why_1 ?_
  refine ex_lconst (pc := 2) (v := 0) dX7_why_2 (by decide) ?_
  refine ex_ldc2_w (pc := 3) dX7_why_3 cn_X7_191 ?_
  refine cx_SL3i (pc := 6) dX7_why_6 lk_X7_69 rfl (Nat.le_of_ble_eq_true rfl) (Nat.le_of_ble_eq_true rfl) (by omega) (c_M_in _ (m := 3) (by decide)) (fun h_6 x_6 q_6 => ?_)
  obtain ⟨e_6, f_6⟩ := q_6
  rw [e_6, f_6]
  refine ex_if_eq (pc := 9) (tgt := 23) dX7_why_9 (by decide) (fun c_9 => ?_) (fun c_9 => ?_)
  · skip
    have b_9 := bF c_9
    refine ex_ldc (pc := 23) dX7_why_23 cn_X7_161 ?_
    refine ex_ret dX7_why_25 rfl ?_
    refine qi_mk ⟨rfl, ?_⟩
    simp only [aWhy, b_9, Bool.and_self, Bool.and_true, Bool.true_and, Bool.and_false, Bool.false_and, Bool.or_true, Bool.true_or, Bool.or_false, Bool.false_or, Bool.not_true, Bool.not_false, Bool.false_eq_true, ↓reduceIte]
  · skip
    have b_9 := bT c_9
    refine ex_aload_n (pc := 12) dX7_why_12 rfl ?_
    refine ex_iload_n (pc := 13) dX7_why_13 rfl ?_
    refine cx_VL1i (pc := 14) dX7_why_14 lk_X7_88 hM.1 rfl (Nat.le_of_ble_eq_true rfl) (Nat.le_of_ble_eq_true rfl) (by omega) (c_M_counts hM hR.2.2.1.1 hR.2.2.1.2.1 (by omega) _) (fun h_14 x_14 q_14 => ?_)
    obtain ⟨e_14, f_14⟩ := q_14
    rw [e_14, f_14]
    refine cx_SL1i (pc := 17) dX7_why_17 lk_X7_195 rfl (Nat.le_of_ble_eq_true rfl) (Nat.le_of_ble_eq_true rfl) (by omega) (c_M_orNone _) (fun h_17 x_17 q_17 => ?_)
    obtain ⟨e_17, f_17⟩ := q_17
    rw [e_17, f_17, orN_cnt hR.2.2.1.2.1]
    refine ex_goto (pc := 20) (tgt := 25) dX7_why_20 (by decide) ?_
    refine ex_ret dX7_why_25 rfl ?_
    refine qi_mk ⟨rfl, ?_⟩
    simp only [aWhy, b_9, Bool.and_self, Bool.and_true, Bool.true_and, Bool.and_false, Bool.false_and, Bool.or_true, Bool.true_or, Bool.or_false, Bool.false_or, Bool.not_true, Bool.not_false, Bool.false_eq_true, ↓reduceIte]
set_option maxHeartbeats 4000000 in
set_option maxRecDepth 100000 in
theorem c_W_textTold {g : Gl} {d ks : Nat} {h : AH} {ik wc : Int32} {s : Nat → Int32} {n nt : Nat} (hW : h[0]? = some (wtC g ik wc)) (hC : CR g h 1 s n nt) (hd : 1 ≤ d) (t w : Int32) : Ex g mX6_textTold d 0 ks 0 [some (.ref (g.1 + 0)), some (.int t), some (.int w), none] [] h (qi (fun h' r => h' = h ∧ r = aTextTold s nt t w)) := by
  have hR := hC.1
  have hP := hC.2.1
  have hn8 := hP.2.1
  have hN := hR.2.1
  obtain ⟨fp, hfp, hfp2⟩ := hR.2.2.2.1
  refine ex_iload_n (pc := 0) dX6_textTold_0 rfl ?_
  refine ex_aload_n (pc := 1) dX6_textTold_1 rfl ?_
  refine ex_get (pc := 2) dX6_textTold_2 fl_X6_10 hW rfl ?_
  refine ex_get (pc := 5) dX6_textTold_5 fl_X6_257 hR.1 rfl ?_
  rw [hC.2.2.1.1]
  refine cx_SL2i (pc := 8) dX6_textTold_8 lk_X6_69 rfl (Nat.le_of_ble_eq_true rfl) (Nat.le_of_ble_eq_true rfl) (by omega) (c_ib _ _) (fun h_8 x_8 q_8 => ?_)
  obtain ⟨e_8, f_8⟩ := q_8
  rw [e_8, f_8]
  refine ex_if_eq (pc := 11) (tgt := 22) dX6_textTold_11 (by decide) (fun c_11 => ?_) (fun c_11 => ?_)
  · skip
    have b_11 := bF c_11
    refine ex_ldc (pc := 22) dX6_textTold_22 cn_X6_73 ?_
    refine ex_ret dX6_textTold_24 rfl ?_
    refine qi_mk ⟨rfl, ?_⟩
    simp [aTextTold, b_11]
  · skip
    have b_11 := bT c_11
    refine ex_iload_n (pc := 14) dX6_textTold_14 rfl ?_
    refine ex_iconst (pc := 15) (v := (nI 2)) dX6_textTold_15 (by decide) ?_
    refine cx_SL2i (pc := 16) dX6_textTold_16 lk_X6_69 rfl (Nat.le_of_ble_eq_true rfl) (Nat.le_of_ble_eq_true rfl) (by omega) (c_ib _ _) (fun h_16 x_16 q_16 => ?_)
    obtain ⟨e_16, f_16⟩ := q_16
    rw [e_16, f_16]
    refine ex_if_ne (pc := 19) (tgt := 25) dX6_textTold_19 (by decide) (fun c_19 => ?_) (fun c_19 => ?_)
    · skip
      have b_19 := bT c_19
      obtain ⟨t0, ht0, rfl⟩ := bw_ex b_11 (by have := hC.2.2.1.2.1; omega)
      have i_t : ixI (nI t0) = t0 := iK (by have := hC.2.2.1.2.1; omega)
      obtain ⟨w0, hw0, rfl⟩ := bw_ex b_19
      have i_w : ixI (nI w0) = w0 := iK (by omega)
      obtain ⟨ft, fl, tx, h2, h3, htx, hl⟩ := hC.2.2.2.1
      obtain ⟨he, ky, L, lv, hok, f, fs, t1, t2, t3, t4⟩ := htx t0 ht0
      refine ex_aload_n (pc := 25) dX6_textTold_25 rfl ?_
      refine ex_get (pc := 26) dX6_textTold_26 fl_X6_10 hW rfl ?_
      refine ex_get (pc := 29) dX6_textTold_29 fl_X6_268 hR.1 rfl ?_
      refine ex_iload_n (pc := 32) dX6_textTold_32 rfl ?_
      refine ex_aldn (k := t0) (v := .ref (g.1 + (96 + 3 * tx t0))) (pc := 33) dX6_textTold_33 rfl h2 rfl (by have := hC.2.2.1.2.1; omega) (by decide) (congrArg va_rf he) ?_
      refine sx_astore_n (pc := 34) dX6_textTold_34 rfl (by decide) ?_
      show Ex _ _ _ _ _ _ [_, _, _, _] _ _ _
      refine ex_aload_n (pc := 35) dX6_textTold_35 rfl ?_
      refine ex_ifnonnull (pc := 36) (tgt := 42) dX6_textTold_36 (by decide) ?_
      refine ex_iload_n (pc := 42) dX6_textTold_42 rfl ?_
      refine ex_if_ne (pc := 43) (tgt := 53) dX6_textTold_43 (by decide) (fun c_43 => ?_) (fun c_43 => ?_)
      · skip
        refine ex_aload_n (pc := 53) dX6_textTold_53 rfl ?_
        refine ex_get (pc := 54) dX6_textTold_54 fl_X6_275 t1 rfl ?_
        refine ex_ret dX6_textTold_57 rfl ?_
        refine qi_mk ⟨rfl, ?_⟩
        obtain rfl : w0 = 1 := by
          have q : ¬ w0 = 0 := fun z => c_43 (by rw [z]; rfl)
          omega
        simp only [aTextTold, b_11, b_19, i_t, i_w, hok.2.2.1, Bool.and_self, Bool.and_true, Bool.true_and, Bool.and_false, Bool.false_and, Bool.or_true, Bool.true_or, Bool.or_false, Bool.false_or, Bool.not_true, Bool.not_false, Bool.false_eq_true, ↓reduceIte]
      · skip
        refine ex_aload_n (pc := 46) dX6_textTold_46 rfl ?_
        refine ex_get (pc := 47) dX6_textTold_47 fl_X6_272 t1 rfl ?_
        refine ex_goto (pc := 50) (tgt := 57) dX6_textTold_50 (by decide) ?_
        refine ex_ret dX6_textTold_57 rfl ?_
        refine qi_mk ⟨rfl, ?_⟩
        obtain rfl : w0 = 0 := (nI_eq (by omega) (by omega)).mp c_43
        have hk := hok.1
        unfold keyS at hk
        simp only [aTextTold, b_11, b_19, i_t, i_w, hk, Bool.and_self, Bool.and_true, Bool.true_and, Bool.and_false, Bool.false_and, Bool.or_true, Bool.true_or, Bool.or_false, Bool.false_or, Bool.not_true, Bool.not_false, Bool.false_eq_true, ↓reduceIte]
    · skip
      have b_19 := bF c_19
      refine ex_ldc (pc := 22) dX6_textTold_22 cn_X6_73 ?_
      refine ex_ret dX6_textTold_24 rfl ?_
      refine qi_mk ⟨rfl, ?_⟩
      simp [aTextTold, b_11, b_19]
set_option maxHeartbeats 4000000 in
set_option maxRecDepth 100000 in
theorem c_M_textTold {g : Gl} {d ks : Nat} {h : AH} {z s : Nat → Int32} {n nt : Nat} (hR : MR g h z s n nt) (hd : 2 ≤ d) (t w : Int32) : Ex g mX7_textTold d 0 ks 0 [some (.ref (g.1 + 75)), some (.int t), some (.int w)] [] h (qi (fun h' r => h' = h ∧ r = aTextTold s nt t w)) := by
  have hM := hR.1
  have hP := hR.2.1
  have hn8 := hP.2.1
  have hN := hP.1
  refine ex_aload_n (pc := 0) dX7_textTold_0 rfl ?_
  refine ex_iload_n (pc := 1) dX7_textTold_1 rfl ?_
  refine cx_VL1i (pc := 2) dX7_textTold_2 lk_X7_363 hM.1 rfl (Nat.le_of_ble_eq_true rfl) (Nat.le_of_ble_eq_true rfl) (by omega) (c_M_ist hM hR.2.2.1.1 hR.2.2.1.2.1 (by omega) _) (fun h_2 x_2 q_2 => ?_)
  obtain ⟨e_2, f_2⟩ := q_2
  rw [e_2, f_2]
  refine ex_if_eq (pc := 5) (tgt := 18) dX7_textTold_5 (by decide) (fun c_5 => ?_) (fun c_5 => ?_)
  · skip
    have b_5 := bF c_5
    refine ex_ldc (pc := 18) dX7_textTold_18 cn_X7_161 ?_
    refine ex_ret dX7_textTold_20 rfl ?_
    refine qi_mk ⟨rfl, ?_⟩
    simp [aTextTold, b_5]
  · skip
    have b_5 := bT c_5
    refine ex_iload_n (pc := 8) dX7_textTold_8 rfl ?_
    refine ex_i2l (pc := 9) dX7_textTold_9 ?_
    refine ex_lconst (pc := 10) (v := 0) dX7_textTold_10 (by decide) ?_
    refine ex_lconst (pc := 11) (v := 1) dX7_textTold_11 (by decide) ?_
    refine cx_SL3i (pc := 12) dX7_textTold_12 lk_X7_69 rfl (Nat.le_of_ble_eq_true rfl) (Nat.le_of_ble_eq_true rfl) (by omega) (c_M_in _ (m := 2) (by decide)) (fun h_12 x_12 q_12 => ?_)
    obtain ⟨e_12, f_12⟩ := q_12
    rw [e_12, f_12]
    refine ex_if_ne (pc := 15) (tgt := 21) dX7_textTold_15 (by decide) (fun c_15 => ?_) (fun c_15 => ?_)
    · skip
      have b_15 := bT c_15
      obtain ⟨t0, ht0, rfl⟩ := bw_ex b_5 (by have := hR.2.2.1.2.1; omega)
      have i_t : ixI (nI t0) = t0 := iK (by have := hR.2.2.1.2.1; omega)
      obtain ⟨w0, hw0, rfl⟩ := bw_ex b_15
      have i_w : ixI (nI w0) = w0 := iK (by omega)
      refine ex_aload_n (pc := 21) dX7_textTold_21 rfl ?_
      refine ex_get (pc := 22) dX7_textTold_22 fl_X7_7 hM.1 rfl ?_
      refine ex_aload_n (pc := 25) dX7_textTold_25 rfl ?_
      refine ex_iload_n (pc := 26) dX7_textTold_26 rfl ?_
      refine cx_VL1i (pc := 27) dX7_textTold_27 lk_X7_354 hM.1 rfl (Nat.le_of_ble_eq_true rfl) (Nat.le_of_ble_eq_true rfl) (by omega) (c_M_textAt _) (fun h_27 x_27 q_27 => ?_)
      obtain ⟨e_27, f_27⟩ := q_27
      rw [e_27, f_27]
      refine ex_iload_n (pc := 30) dX7_textTold_30 rfl ?_
      refine ex_iadd (pc := 31) dX7_textTold_31 ?_
      rw [nI_mul, nI_add, nI_add]
      refine ex_ildn (k := 90 + 200 * t0 + w0) (pc := 32) dX7_textTold_32 hM.2 rfl (by have := hR.2.2.1.2.1; omega) (by decide) ?_
      refine ex_ret dX7_textTold_33 rfl ?_
      refine qi_mk ⟨rfl, ?_⟩
      simp only [aTextTold, b_5, b_15, i_t, i_w, Bool.and_self, Bool.and_true, Bool.true_and, Bool.and_false, Bool.false_and, Bool.or_true, Bool.true_or, Bool.or_false, Bool.false_or, Bool.not_true, Bool.not_false, Bool.false_eq_true, ↓reduceIte]
    · skip
      have b_15 := bF c_15
      refine ex_ldc (pc := 18) dX7_textTold_18 cn_X7_161 ?_
      refine ex_ret dX7_textTold_20 rfl ?_
      refine qi_mk ⟨rfl, ?_⟩
      simp [aTextTold, b_5, b_15]

/-! the class's reader: the place of the fault -/
def rdZ (r : Nat → Int32) : Nat → Int32 := upd (upd (upd (upd (upd (upd (upd (upd (upd r 3 (nI 0)) 5 (nI 0)) 6 (-1)) 7 (nI 0)) 8 (nI 0)) 9 (nI 0)) 10 (nI 1)) 11 (nI 0)) 12 (nI 0)
set_option maxHeartbeats 4000000 in
set_option maxRecDepth 100000 in
theorem c_R_clear {g : Gl} {d ks : Nat} {h : AH} {r tf : Nat → Int32} {tl : Nat} (hT0 : RdT g h r tf tl) : Ex g mX1_clear d 0 ks 0 [some (.ref (g.1 + 40))] [] h (qv (fun h' => RdT g h' (rdZ r) tf tl ∧ FrX c40 g h h')) := by
  refine ex_aload_n (pc := 0) dX1_clear_0 rfl ?_
  refine ex_iconst (pc := 1) (v := (nI 0)) dX1_clear_1 (by decide) ?_
  refine ex_put (pc := 2) dX1_clear_2 fp_X1_22 hT0.1 (Nat.le_of_ble_eq_true rfl) rfl rfl ?_
  rw [rd_3]
  have hT1 := hT0.s (r' := (upd r 3 (nI 0))) (upd_ne (by decide))
  refine ex_aload_n (pc := 5) dX1_clear_5 rfl ?_
  refine ex_iconst (pc := 6) (v := (nI 0)) dX1_clear_6 (by decide) ?_
  refine ex_put (pc := 7) dX1_clear_7 fp_X1_28 hT1.1 (Nat.le_of_ble_eq_true rfl) rfl rfl ?_
  rw [rd_5]
  have hT2 := hT1.s (r' := (upd (upd r 3 (nI 0)) 5 (nI 0))) (upd_ne (by decide))
  refine ex_aload_n (pc := 10) dX1_clear_10 rfl ?_
  refine ex_iconst (pc := 11) (v := (-1)) dX1_clear_11 (by decide) ?_
  refine ex_put (pc := 12) dX1_clear_12 fp_X1_31 hT2.1 (Nat.le_of_ble_eq_true rfl) rfl rfl ?_
  rw [rd_6]
  have hT3 := hT2.s (r' := (upd (upd (upd r 3 (nI 0)) 5 (nI 0)) 6 (-1))) (upd_ne (by decide))
  refine ex_aload_n (pc := 15) dX1_clear_15 rfl ?_
  refine ex_iconst (pc := 16) (v := (nI 0)) dX1_clear_16 (by decide) ?_
  refine ex_put (pc := 17) dX1_clear_17 fp_X1_34 hT3.1 (Nat.le_of_ble_eq_true rfl) rfl rfl ?_
  rw [rd_7]
  have hT4 := hT3.s (r' := (upd (upd (upd (upd r 3 (nI 0)) 5 (nI 0)) 6 (-1)) 7 (nI 0))) (upd_ne (by decide))
  refine ex_aload_n (pc := 20) dX1_clear_20 rfl ?_
  refine ex_iconst (pc := 21) (v := (nI 0)) dX1_clear_21 (by decide) ?_
  refine ex_put (pc := 22) dX1_clear_22 fp_X1_37 hT4.1 (Nat.le_of_ble_eq_true rfl) rfl rfl ?_
  rw [rd_8]
  have hT5 := hT4.s (r' := (upd (upd (upd (upd (upd r 3 (nI 0)) 5 (nI 0)) 6 (-1)) 7 (nI 0)) 8 (nI 0))) (upd_ne (by decide))
  refine ex_aload_n (pc := 25) dX1_clear_25 rfl ?_
  refine ex_iconst (pc := 26) (v := (nI 0)) dX1_clear_26 (by decide) ?_
  refine ex_put (pc := 27) dX1_clear_27 fp_X1_40 hT5.1 (Nat.le_of_ble_eq_true rfl) rfl rfl ?_
  rw [rd_9]
  have hT6 := hT5.s (r' := (upd (upd (upd (upd (upd (upd r 3 (nI 0)) 5 (nI 0)) 6 (-1)) 7 (nI 0)) 8 (nI 0)) 9 (nI 0))) (upd_ne (by decide))
  refine ex_aload_n (pc := 30) dX1_clear_30 rfl ?_
  refine ex_iconst (pc := 31) (v := (nI 1)) dX1_clear_31 (by decide) ?_
  refine ex_put (pc := 32) dX1_clear_32 fp_X1_43 hT6.1 (Nat.le_of_ble_eq_true rfl) rfl rfl ?_
  rw [rd_10]
  have hT7 := hT6.s (r' := (upd (upd (upd (upd (upd (upd (upd r 3 (nI 0)) 5 (nI 0)) 6 (-1)) 7 (nI 0)) 8 (nI 0)) 9 (nI 0)) 10 (nI 1))) (upd_ne (by decide))
  refine ex_aload_n (pc := 35) dX1_clear_35 rfl ?_
  refine ex_iconst (pc := 36) (v := (nI 0)) dX1_clear_36 (by decide) ?_
  refine ex_put (pc := 37) dX1_clear_37 fp_X1_47 hT7.1 (Nat.le_of_ble_eq_true rfl) rfl rfl ?_
  rw [rd_11]
  have hT8 := hT7.s (r' := (upd (upd (upd (upd (upd (upd (upd (upd r 3 (nI 0)) 5 (nI 0)) 6 (-1)) 7 (nI 0)) 8 (nI 0)) 9 (nI 0)) 10 (nI 1)) 11 (nI 0))) (upd_ne (by decide))
  refine ex_aload_n (pc := 40) dX1_clear_40 rfl ?_
  refine ex_iconst (pc := 41) (v := (nI 0)) dX1_clear_41 (by decide) ?_
  refine ex_put (pc := 42) dX1_clear_42 fp_X1_50 hT8.1 (Nat.le_of_ble_eq_true rfl) rfl rfl ?_
  rw [rd_12]
  have hT9 := hT8.s (r' := (upd (upd (upd (upd (upd (upd (upd (upd (upd r 3 (nI 0)) 5 (nI 0)) 6 (-1)) 7 (nI 0)) 8 (nI 0)) 9 (nI 0)) 10 (nI 1)) 11 (nI 0)) 12 (nI 0))) (upd_ne (by decide))
  refine ex_vret dX1_clear_45 rfl ?_
  exact qv_mk ⟨hT9, ((((((((((FrX.rf (S := c40)).tr (FrX.st (S := c40) rfl (nscr (by omega)))).tr (FrX.st (S := c40) rfl (nscr (by omega)))).tr (FrX.st (S := c40) rfl (nscr (by omega)))).tr (FrX.st (S := c40) rfl (nscr (by omega)))).tr (FrX.st (S := c40) rfl (nscr (by omega)))).tr (FrX.st (S := c40) rfl (nscr (by omega)))).tr (FrX.st (S := c40) rfl (nscr (by omega)))).tr (FrX.st (S := c40) rfl (nscr (by omega)))).tr (FrX.st (S := c40) rfl (nscr (by omega))))⟩
theorem rdZ_0 {r : Nat → Int32} : rdZ r 3 = nI 0 ∧ rdZ r 5 = nI 0 ∧ rdZ r 7 = nI 0 ∧ rdZ r 8 = nI 0 ∧ rdZ r 9 = nI 0 ∧ rdZ r 10 = nI 1 ∧ rdZ r 11 = nI 0 ∧ rdZ r 12 = nI 0 := by
  unfold rdZ
  refine ⟨?_, ?_, ?_, ?_, ?_, ?_, ?_, upd_eq⟩
  · rw [upd_ne (by decide), upd_ne (by decide), upd_ne (by decide), upd_ne (by decide), upd_ne (by decide), upd_ne (by decide), upd_ne (by decide), upd_ne (by decide), upd_eq]
  · rw [upd_ne (by decide), upd_ne (by decide), upd_ne (by decide), upd_ne (by decide), upd_ne (by decide), upd_ne (by decide), upd_ne (by decide), upd_eq]
  · rw [upd_ne (by decide), upd_ne (by decide), upd_ne (by decide), upd_ne (by decide), upd_ne (by decide), upd_eq]
  · rw [upd_ne (by decide), upd_ne (by decide), upd_ne (by decide), upd_ne (by decide), upd_eq]
  · rw [upd_ne (by decide), upd_ne (by decide), upd_ne (by decide), upd_eq]
  · rw [upd_ne (by decide), upd_ne (by decide), upd_eq]
  · rw [upd_ne (by decide), upd_eq]
/-- what the search for a fault on the whole tape leaves -/
def FaQ (g : Gl) (tf : Nat → Int32) (tb : Nat → Nat) (tl k : Nat) (ts : List Tkn) (h h' : AH) (x : Int32) : Prop := FrX rdW g h h' ∧ ∃ r', RdA g h' r' tf tl ∧ (okT k ts → x = -1 ∧ (∃ fs, h'[42]? = some (ia g 96 fs) ∧ stpR k fs (prG ts).2.2) ∧ r' 3 = nI (prG ts).2.2.length ∧ r' 6 = nI k ∧ r' 7 = nI (lvs (prG ts).2.2) ∧ (prG ts).2.2.length ≤ 96) ∧ (¬ okT k ts → x = nI (plT tb tl k ts))
theorem Ff_Fa {g : Gl} {tf : Nat → Int32} {tb : Nat → Nat} {tl k : Nat} {ts : List Tkn} {h h' : AH} {x : Int32} (hk : k < 3) (a : FfQ g tf tl k (rnM ([], true, [], 0, 0) ts) h h' x) : FaQ g tf tb tl k ts h h' x := by
  obtain ⟨f, r', b1, b2, b3⟩ := a
  rw [rn_pr] at b2 b3
  refine ⟨f, r', b1, fun q => ?_, fun q => ?_⟩
  · rw [if_pos ⟨q.2.1, q.2.2⟩] at b2
    exact b2 _ rfl
  · have n : ¬ ((prG ts).1 = true ∧ (prG ts).2.1 = []) := fun y => q ⟨hk, y.1, y.2⟩
    rw [if_neg n] at b3
    rw [plT, if_pos hk]
    exact b3 rfl
set_option maxHeartbeats 4000000 in
set_option maxRecDepth 100000 in
theorem c_R_findFault {g : Gl} {d ks : Nat} {h : AH} {r tf : Nat → Int32} {tb : Nat → Nat} {tl : Nat} (hK : KeyOk g) (hA : RdA g h r tf tl) (hB : TpOk tf tb) {ts : List Tkn} (hts : kyv tb tl (bgT tb tl 0) < 3 → TkL tb tl (kyv tb tl (bgT tb tl 0)) (enT tb tl (bgT tb tl 0)) ts ∧ ts.length ≤ 96) (hd : 10 ≤ d) : Ex g mX1_findFault d 0 ks 0 [some (.ref (g.1 + 40)), none, none] [] h (qi (FaQ g tf tb tl (kyv tb tl (bgT tb tl 0)) ts h)) := by
  have htl := hA.1.2.2.2
  by_cases hk : kyv tb tl (bgT tb tl 0) < 3
  · obtain ⟨hl, hl96⟩ := hts hk
    obtain ⟨hb, hs1⟩ := ky_s hk
    refine ex_aload_n (pc := 0) dX1_findFault_0 rfl ?_
    refine cx_VL0v (pc := 1) dX1_findFault_1 lk_X1_64 hA.1.1 rfl (Nat.le_of_ble_eq_true rfl) (Nat.le_of_ble_eq_true rfl) (by omega) (c_R_clear hA.1) (fun h_1 q_1 => ?_)
    obtain ⟨hT1, f1⟩ := q_1
    refine ex_aload_n (pc := 4) dX1_findFault_4 rfl ?_
    refine cx_VL0i (pc := 5) dX1_findFault_5 lk_X1_67 hT1.1 rfl (Nat.le_of_ble_eq_true rfl) (Nat.le_of_ble_eq_true rfl) (by omega) (c_R_goOn hT1 hB (p := 0) (Nat.zero_le _) rdZ_0.2.2.2.2.2.2.2 (by omega)) (fun h_5 x_5 q_5 => ?_)
    obtain ⟨r2, hT2, k2, h211, h212, f2, e2⟩ := q_5
    have hA2 : RdA g h_5 r2 tf tl := by
      obtain ⟨-, ⟨fs, h42⟩, fo, h43⟩ := hA
      exact ⟨hT2, ⟨fs, (f1.tr f2).at (by unfold c40; decide) (nscr (by omega)) h42⟩, fo, (f1.tr f2).at (by unfold c40; decide) (nscr (by omega)) h43⟩
    refine bx_if_ne_t (pc := 8) (tgt := 16) dX1_findFault_8 (by decide) (by rw [e2, bI_t hb]; decide) ?_
    refine ex_aload_n (pc := 16) dX1_findFault_16 rfl ?_
    refine ex_aload_n (pc := 17) dX1_findFault_17 rfl ?_
    refine cx_VL0i (pc := 18) dX1_findFault_18 lk_X1_71 hT2.1 rfl (Nat.le_of_ble_eq_true rfl) (Nat.le_of_ble_eq_true rfl) (by omega) (hK _ _ _ _ tf tb tl (bgT tb tl 0) hT2 hB hb h211 (h212 hb) (by omega)) (fun h_18 x_18 q_18 => ?_)
    obtain ⟨e_18, f_18⟩ := q_18
    rw [e_18, f_18]
    rw [(kyI_n hk).2.2]
    refine ex_put (pc := 21) dX1_findFault_21 fp_X1_31 hT2.1 (Nat.le_of_ble_eq_true rfl) rfl rfl ?_
    rw [rd_6]
    have hT3 := hT2.s (r' := upd r2 6 (nI (kyv tb tl (bgT tb tl 0)))) (upd_ne (by decide))
    refine ex_aload_n (pc := 24) dX1_findFault_24 rfl ?_
    refine ex_get (pc := 25) dX1_findFault_25 fl_X1_31 hT3.1 rfl ?_
    refine bx_if_ge_t (pc := 28) (tgt := 36) dX1_findFault_28 (by decide) (by rw [upd_eq]; exact nI_pos' (by omega)) ?_
    refine ex_iconst (pc := 36) (v := (nI 0)) dX1_findFault_36 (by decide) ?_
    refine sx_istore_n (pc := 37) dX1_findFault_37 rfl (by decide) ?_
    show Ex _ _ _ _ _ _ [_, _, _] _ _ _
    obtain ⟨-, ⟨fs, q42⟩, fo, q43⟩ := hA2
    have uk : ∀ k v, ¬ k = 6 → ¬ k = 11 → ¬ k = 12 → rdZ r k = v → upd r2 6 (nI (kyv tb tl (bgT tb tl 0))) k = v := fun k v a b c e => (upd_ne a).trans ((k2 k b c).trans e)
    obtain ⟨z3, z5, z7, z8, z9, z10, -, -⟩ := rdZ_0 (r := r)
    have hC : CfR g _ (upd r2 6 (nI (kyv tb tl (bgT tb tl 0)))) tf tl (kyv tb tl (bgT tb tl 0)) ([], true, [], 0, 0) := ⟨⟨hT3, upd_eq, ⟨fs, gs_ne (by decide) q42, fun i hi => absurd hi (Nat.not_lt_zero _)⟩, uk 3 _ (by decide) (by decide) (by decide) z3, ⟨fo, gs_ne (by decide) q43, trivial⟩, uk 5 _ (by decide) (by decide) (by decide) z5⟩, uk 7 _ (by decide) (by decide) (by decide) z7, uk 8 _ (by decide) (by decide) (by decide) z8, uk 9 _ (by decide) (by decide) (by decide) z9, uk 10 _ (by decide) (by decide) (by decide) z10⟩
    refine (c_R_ff_l hB hk (by omega) ts 0 (enT tb tl (bgT tb tl 0)) _ _ _ hC ⟨by show 0 + 0 + ts.length ≤ 96; omega, Nat.le_refl _, Nat.le_refl _, by decide, by decide⟩ ((upd_ne (by decide)).trans (h212 hb)) (en_rng hb).2 hl (by omega) ((c40W (f1.tr f2)).tr (FrX.st (Or.inl rfl) (nscr (by omega)))) none).mono (fun h' x q => ?_)
    obtain ⟨y, ey, q⟩ := q
    exact ⟨y, ey, Ff_Fa hk q⟩
  · by_cases hb : bgT tb tl 0 < tl
    · skip
      refine ex_aload_n (pc := 0) dX1_findFault_0 rfl ?_
      refine cx_VL0v (pc := 1) dX1_findFault_1 lk_X1_64 hA.1.1 rfl (Nat.le_of_ble_eq_true rfl) (Nat.le_of_ble_eq_true rfl) (by omega) (c_R_clear hA.1) (fun h_1 q_1 => ?_)
      obtain ⟨hT1, f1⟩ := q_1
      refine ex_aload_n (pc := 4) dX1_findFault_4 rfl ?_
      refine cx_VL0i (pc := 5) dX1_findFault_5 lk_X1_67 hT1.1 rfl (Nat.le_of_ble_eq_true rfl) (Nat.le_of_ble_eq_true rfl) (by omega) (c_R_goOn hT1 hB (p := 0) (Nat.zero_le _) rdZ_0.2.2.2.2.2.2.2 (by omega)) (fun h_5 x_5 q_5 => ?_)
      obtain ⟨r2, hT2, k2, h211, h212, f2, e2⟩ := q_5
      have hA2 : RdA g h_5 r2 tf tl := by
        obtain ⟨-, ⟨fs, h42⟩, fo, h43⟩ := hA
        exact ⟨hT2, ⟨fs, (f1.tr f2).at (by unfold c40; decide) (nscr (by omega)) h42⟩, fo, (f1.tr f2).at (by unfold c40; decide) (nscr (by omega)) h43⟩
      refine bx_if_ne_t (pc := 8) (tgt := 16) dX1_findFault_8 (by decide) (by rw [e2, bI_t hb]; decide) ?_
      refine ex_aload_n (pc := 16) dX1_findFault_16 rfl ?_
      refine ex_aload_n (pc := 17) dX1_findFault_17 rfl ?_
      refine cx_VL0i (pc := 18) dX1_findFault_18 lk_X1_71 hT2.1 rfl (Nat.le_of_ble_eq_true rfl) (Nat.le_of_ble_eq_true rfl) (by omega) (hK _ _ _ _ tf tb tl (bgT tb tl 0) hT2 hB hb h211 (h212 hb) (by omega)) (fun h_18 x_18 q_18 => ?_)
      obtain ⟨e_18, f_18⟩ := q_18
      rw [e_18, f_18]
      rw [kyI, if_neg hk]
      refine ex_put (pc := 21) dX1_findFault_21 fp_X1_31 hT2.1 (Nat.le_of_ble_eq_true rfl) rfl rfl ?_
      rw [rd_6]
      have hT3 := hT2.s (r' := upd r2 6 (-1)) (upd_ne (by decide))
      refine ex_aload_n (pc := 24) dX1_findFault_24 rfl ?_
      refine ex_get (pc := 25) dX1_findFault_25 fl_X1_31 hT3.1 rfl ?_
      refine bx_if_ge_f (pc := 28) (tgt := 36) dX1_findFault_28 (by decide) (by rw [upd_eq]; decide) ?_
      refine ex_aload_n (pc := 31) dX1_findFault_31 rfl ?_
      refine ex_get (pc := 32) dX1_findFault_32 fl_X1_47 hT3.1 rfl ?_
      refine ex_ret dX1_findFault_35 rfl ?_
      refine qi_mk ⟨(c40W (f1.tr f2)).tr (FrX.st (Or.inl rfl) (nscr (by omega))), upd r2 6 (-1), ⟨hT3, ?_, ?_⟩, fun q => absurd q.1 hk, fun _ => ?_⟩
      · obtain ⟨-, ⟨fs, q⟩, -⟩ := hA2; exact ⟨fs, gs_ne (by decide) q⟩
      · obtain ⟨-, -, fo, q⟩ := hA2; exact ⟨fo, gs_ne (by decide) q⟩
      · rw [upd_ne (by decide), h211, plT, if_neg hk]
    · skip
      refine ex_aload_n (pc := 0) dX1_findFault_0 rfl ?_
      refine cx_VL0v (pc := 1) dX1_findFault_1 lk_X1_64 hA.1.1 rfl (Nat.le_of_ble_eq_true rfl) (Nat.le_of_ble_eq_true rfl) (by omega) (c_R_clear hA.1) (fun h_1 q_1 => ?_)
      obtain ⟨hT1, f1⟩ := q_1
      refine ex_aload_n (pc := 4) dX1_findFault_4 rfl ?_
      refine cx_VL0i (pc := 5) dX1_findFault_5 lk_X1_67 hT1.1 rfl (Nat.le_of_ble_eq_true rfl) (Nat.le_of_ble_eq_true rfl) (by omega) (c_R_goOn hT1 hB (p := 0) (Nat.zero_le _) rdZ_0.2.2.2.2.2.2.2 (by omega)) (fun h_5 x_5 q_5 => ?_)
      obtain ⟨r2, hT2, k2, h211, h212, f2, e2⟩ := q_5
      have hA2 : RdA g h_5 r2 tf tl := by
        obtain ⟨-, ⟨fs, h42⟩, fo, h43⟩ := hA
        exact ⟨hT2, ⟨fs, (f1.tr f2).at (by unfold c40; decide) (nscr (by omega)) h42⟩, fo, (f1.tr f2).at (by unfold c40; decide) (nscr (by omega)) h43⟩
      refine bx_if_ne_f (pc := 8) (tgt := 16) dX1_findFault_8 (by decide) (by rw [e2, bI_f hb]) ?_
      refine ex_aload_n (pc := 11) dX1_findFault_11 rfl ?_
      refine ex_get (pc := 12) dX1_findFault_12 fl_X1_15 hT2.1 rfl ?_
      refine ex_ret dX1_findFault_15 rfl ?_
      exact qi_mk ⟨c40W (f1.tr f2), r2, hA2, fun q => absurd q.1 hk, fun _ => by rw [hT2.2.2.1, plT, if_neg hk, show bgT tb tl 0 = tl by have := (bg_rng (tb := tb) (Nat.zero_le tl)).2; omega]⟩

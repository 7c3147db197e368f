/-! who sees the thief; tired posts -/
theorem anyB_t {f : Nat → Bool} : ∀ {n k : Nat}, k < n → f k = true → anyB f n = true := by
  intro n
  induction n with
  | zero => intro k h; omega
  | succ n ih =>
    intro k h hf
    rw [anyB]
    by_cases e : k = n
    · subst e; rw [hf, Bool.or_true]
    · rw [ih (by omega) hf, Bool.true_or]
theorem bI_o1 (p : Bool) : bI (p = true) ||| nI 1 = bI ((p || true) = true) := by cases p <;> decide
theorem bI_o0 (p : Bool) : bI (p = true) ||| nI 0 = bI ((p || false) = true) := by cases p <;> decide
theorem thf_eq {s : Nat → Int32} {th : Nat} (e7 : s 7 = nI th) (h : th < 48) : thf s = th := by unfold thf; rw [e7, nI_clamp (by omega)]
set_option maxHeartbeats 4000000 in
set_option maxRecDepth 100000 in
theorem c_R_thiefIsSeen_l {g : Gl} {d ks : Nat} {h : AH} {b n nt : Nat} {s : Nat → Int32} (hC : CR g h b s n nt) (hd : 3 ≤ d) {th : Nat} (e7 : s 7 = nI th) (hth2 : th < 48) : ∀ (m k : Nat) (o2 : Option Value) (h1 : AH), Sq g h h1 → anyB (fun k => awS s k && sgt s nt k th) k = false → k + m = n → Ex g mX2_thiefIsSeen d 0 ks 2 [some (.ref (g.1 + b)), some (.int (nI k)), o2] [] h1 (qi (fun h' r => Sq g h h' ∧ r = bI (anyB (fun k => awS s k && sgt s nt k th) n = true))) := by
  have hn8 := hC.1.2.2.1
  have hb := hC.2.2.2.2
  intro m
  induction m with
  | zero =>
    intro k o2 h1 hq hf hk
    have hC1 := hC.sq hq
    obtain ⟨fp, hfp, hfp2⟩ := hC1.1.2.2.2.1
    have hN := hC1.1.2.1
    refine ex_iload_n (pc := 2) dX2_thiefIsSeen_2 rfl ?_
    refine ex_aload_n (pc := 3) dX2_thiefIsSeen_3 rfl ?_
    refine ex_get (pc := 4) dX2_thiefIsSeen_4 fl_X2_17 hC1.1.1 rfl ?_
    refine bx_icmp_ge_t (pc := 7) (tgt := 53) dX2_thiefIsSeen_7 (by decide) (by rw [hN, show k = n by omega]; exact Int32.le_refl _) ?_
    refine ex_iconst (pc := 53) (v := 0) dX2_thiefIsSeen_53 (by decide) ?_
    refine ex_zret dX2_thiefIsSeen_54 rfl (by first | exact Or.inl rfl | exact Or.inr rfl | exact bI_01 _) ?_
    obtain rfl : k = n := by omega
    exact qi_mk ⟨hq, by rw [bI_f (by rw [hf]; decide)]⟩
  | succ m ih =>
    intro k o2 h1 hq hf hk
    replace ih := fun k' h1 (a : Sq g h h1) x y => ih k' (some (.ref (g.1 + (b + 4 + k)))) h1 a x y
    have hC1 := hC.sq hq
    obtain ⟨fp, hfp, hfp2⟩ := hC1.1.2.2.2.1
    have hN := hC1.1.2.1
    obtain ⟨⟨kd, hkd, ekd⟩, ⟨c, hc, ec⟩, σ, hσ, eσ⟩ := hC1.2.1.2.2 k (by omega)
    have hp : h1[b + 4 + k]? = some (po (s (10 + 4 * k + 0)) (nI c) (s (10 + 4 * k + 2)) (s (10 + 4 * k + 3))) := by rw [← ec]; exact hC1.1.2.2.2.2.1 k (by omega)
    have esg : seeS s (s (10 + 4 * k + 0)) (s (10 + 4 * k + 2)) c (rchS s nt (s (10 + 4 * k + 0)) (s (10 + 4 * k + 3)) (s (10 + 4 * k + 2))) th = sgt s nt k th := by unfold sgt; rw [ec, nI_clamp (by omega)]
    refine ex_iload_n (pc := 2) dX2_thiefIsSeen_2 rfl ?_
    refine ex_aload_n (pc := 3) dX2_thiefIsSeen_3 rfl ?_
    refine ex_get (pc := 4) dX2_thiefIsSeen_4 fl_X2_17 hC1.1.1 rfl ?_
    refine bx_icmp_ge_f (pc := 7) (tgt := 53) dX2_thiefIsSeen_7 (by decide) (by rw [hN]; exact nI_ge (by omega) (by omega)) ?_
    refine ex_aload_n (pc := 10) dX2_thiefIsSeen_10 rfl ?_
    refine ex_get (pc := 11) dX2_thiefIsSeen_11 fl_X2_11 hC1.1.1 rfl ?_
    refine ex_iload_n (pc := 14) dX2_thiefIsSeen_14 rfl ?_
    refine ex_aldn (k := k) (v := .ref (g.1 + (b + 4 + k))) (pc := 15) dX2_thiefIsSeen_15 rfl hfp rfl (by omega) (by decide) (congrArg va_rf (hfp2 k (by omega))) ?_
    refine sx_astore_n (pc := 16) dX2_thiefIsSeen_16 rfl (by decide) ?_
    show Ex _ _ _ _ _ _ [_, _, _] _ _ _
    refine ex_aload_n (pc := 17) dX2_thiefIsSeen_17 rfl ?_
    refine ex_aload_n (pc := 18) dX2_thiefIsSeen_18 rfl ?_
    refine ex_get (pc := 19) dX2_thiefIsSeen_19 fl_X2_40 hC1.1.1 rfl ?_
    refine cx_VL1i (pc := 22) dX2_thiefIsSeen_22 lk_X2_147 hp rfl (Nat.le_of_ble_eq_true rfl) (Nat.le_of_ble_eq_true rfl) (by omega) (c_P_isAwake hp _) (fun h_22 x_22 q_22 => ?_)
    obtain ⟨e_22, rfl⟩ := q_22
    rw [e_22]
    refine ex_if_eq (pc := 25) (tgt := 47) dX2_thiefIsSeen_25 (by decide) (fun c_25 => ?_) (fun c_25 => ?_)
    · skip
      first | refine sx_inc (pc := 47) dX2_thiefIsSeen_47 rfl rfl (by decide) ?_ | refine sx_iinc (pc := 47) dX2_thiefIsSeen_47 rfl rfl (by decide) ?_
      show Ex _ _ _ _ _ _ [_, _, _] _ _ _
      refine ex_goto (pc := 50) (tgt := 2) dX2_thiefIsSeen_50 (by decide) ?_
      first
      | exact ih (k + 1) h1 hq (by rw [anyB, hf, show awS s k = false from Bool.eq_false_iff.mpr (bI_0.mp c_25), Bool.false_and]; rfl) (by omega)
      | exact ih (k + 1) h_36 (hq.tr hs_36) (by rw [anyB, hf, show sgt s nt k th = false from by rw [← esg]; exact Bool.eq_false_iff.mpr (bI_0.mp c_42), Bool.and_false]; rfl) (by omega)
    · skip
      refine ex_aload_n (pc := 28) dX2_thiefIsSeen_28 rfl ?_
      refine ex_aload_n (pc := 29) dX2_thiefIsSeen_29 rfl ?_
      refine ex_aload_n (pc := 30) dX2_thiefIsSeen_30 rfl ?_
      refine ex_get (pc := 31) dX2_thiefIsSeen_31 fl_X2_25 hC1.1.1 rfl ?_
      refine ex_aload_n (pc := 34) dX2_thiefIsSeen_34 rfl ?_
      refine ex_aload_n (pc := 35) dX2_thiefIsSeen_35 rfl ?_
      refine cx_VL1i (pc := 36) dX2_thiefIsSeen_36 lk_X2_131 hC1.1.1 rfl (Nat.le_of_ble_eq_true rfl) (Nat.le_of_ble_eq_true rfl) (by omega) (c_R_reachOf hC1 (by omega) hp (by omega)) (fun h_36 x_36 q_36 => ?_)
      obtain ⟨hs_36, f_36⟩ := q_36
      rw [f_36]
      rw [e7]
      refine cx_VL3i (pc := 39) dX2_thiefIsSeen_39 lk_X2_135 (hC1.sq hs_36).1.1 rfl (Nat.le_of_ble_eq_true rfl) (Nat.le_of_ble_eq_true rfl) (by omega) (c_R_isInSight (hC1.sq hs_36).1 (by omega) hc hth2 (hs_36.at (nscr (by omega)) hp) _) (fun h_39 x_39 q_39 => ?_)
      obtain ⟨e_39, rfl⟩ := q_39
      rw [e_39]
      refine ex_if_eq (pc := 42) (tgt := 47) dX2_thiefIsSeen_42 (by decide) (fun c_42 => ?_) (fun c_42 => ?_)
      · skip
        first | refine sx_inc (pc := 47) dX2_thiefIsSeen_47 rfl rfl (by decide) ?_ | refine sx_iinc (pc := 47) dX2_thiefIsSeen_47 rfl rfl (by decide) ?_
        show Ex _ _ _ _ _ _ [_, _, _] _ _ _
        refine ex_goto (pc := 50) (tgt := 2) dX2_thiefIsSeen_50 (by decide) ?_
        first
        | exact ih (k + 1) h1 hq (by rw [anyB, hf, show awS s k = false from Bool.eq_false_iff.mpr (bI_0.mp c_25), Bool.false_and]; rfl) (by omega)
        | exact ih (k + 1) h_36 (hq.tr hs_36) (by rw [anyB, hf, show sgt s nt k th = false from by rw [← esg]; exact Bool.eq_false_iff.mpr (bI_0.mp c_42), Bool.and_false]; rfl) (by omega)
      · skip
        refine ex_iconst (pc := 45) (v := 1) dX2_thiefIsSeen_45 (by decide) ?_
        refine ex_zret dX2_thiefIsSeen_46 rfl (by first | exact Or.inl rfl | exact Or.inr rfl | exact bI_01 _) ?_
        refine qi_mk ⟨hq.tr hs_36, ?_⟩
        rw [esg] at c_42
        rw [bI_t (anyB_t (f := fun k => awS s k && sgt s nt k th) (show k < n by omega) (by
          have a1 : awS s k = true := Decidable.not_not.mp (fun q => c_25 (bI_f q))
          have a2 : sgt s nt k th = true := Decidable.not_not.mp (fun q => c_42 (bI_f q))
          show (awS s k && sgt s nt k th) = true
          rw [a1, a2]; rfl))]
set_option maxHeartbeats 4000000 in
set_option maxRecDepth 100000 in
theorem c_R_thiefIsSeen {g : Gl} {d ks : Nat} {h : AH} {b n nt : Nat} {s : Nat → Int32} (hC : CR g h b s n nt) (hd : 3 ≤ d) {th : Nat} (e7 : s 7 = nI th) (hth2 : th < 48) : Ex g mX2_thiefIsSeen d 0 ks 0 [some (.ref (g.1 + b)), none, none] [] h (qi (fun h' r => Sq g h h' ∧ r = bI (cgt s nt n = true))) := by
  refine ex_iconst (pc := 0) (v := (nI 0)) dX2_thiefIsSeen_0 (by decide) ?_
  refine sx_istore_n (pc := 1) dX2_thiefIsSeen_1 rfl (by decide) ?_
  show Ex _ _ _ _ _ _ [_, _, _] _ _ _
  refine (c_R_thiefIsSeen_l hC hd e7 hth2 n 0 none h Sq.rf rfl (by omega)).mono (fun h' r q => ?_)
  obtain ⟨x, rfl, e, rfl⟩ := q
  refine qi_mk ⟨e, ?_⟩
  unfold cgt gdd
  rw [thf_eq e7 hth2]
set_option maxHeartbeats 4000000 in
set_option maxRecDepth 100000 in
theorem c_M_isCaught_l {g : Gl} {d ks : Nat} {h : AH} {z s : Nat → Int32} {n nt : Nat} (hR : MR g h z s n nt) (hd : 6 ≤ d) {th : Nat} (e7 : s 7 = nI th) (hth2 : th < 48) : ∀ (m k : Nat) (h1 : AH), Sq g h h1 → k + m = n → Ex g mX7_isCaught d 0 ks 4 [some (.ref (g.1 + 75)), some (.int (bI (anyB (fun k => awS s k && sgt s nt k th) k = true))), some (.int (nI k))] [] h1 (qi (fun h' r => Sq g h h' ∧ r = bI (anyB (fun k => awS s k && sgt s nt k th) n = true))) := by
  have hn8 := hR.2.1.2.1
  intro m
  induction m with
  | zero =>
    intro k h1 hq hk
    have hR1 := hR.sq hq
    have hN := hR1.2.1.1
    refine ex_iload_n (pc := 4) dX7_isCaught_4 rfl ?_
    refine ex_aload_n (pc := 5) dX7_isCaught_5 rfl ?_
    refine ex_get (pc := 6) dX7_isCaught_6 fl_X7_7 hR1.1.1 rfl ?_
    refine ex_iconst (pc := 9) (v := (nI 0)) dX7_isCaught_9 (by decide) ?_
    refine ex_ildn (k := 0) (pc := 10) dX7_isCaught_10 hR1.1.2 (by first | rfl | (simp only [nI_add, nI_mul]; done) | (simp only [nI_add, nI_mul]; rfl)) (by omega) (by decide) ?_
    refine bx_icmp_ge_t (pc := 11) (tgt := 51) dX7_isCaught_11 (by decide) (by rw [hN, show k = n by omega]; exact Int32.le_refl _) ?_
    refine ex_iload_n (pc := 51) dX7_isCaught_51 rfl ?_
    refine ex_zret dX7_isCaught_52 rfl (by first | exact Or.inl rfl | exact Or.inr rfl | exact bI_01 _) ?_
    obtain rfl : k = n := by omega
    exact qi_mk ⟨hq, rfl⟩
  | succ m ih =>
    intro k h1 hq hk
    have hR1 := hR.sq hq
    have hN := hR1.2.1.1
    refine ex_iload_n (pc := 4) dX7_isCaught_4 rfl ?_
    refine ex_aload_n (pc := 5) dX7_isCaught_5 rfl ?_
    refine ex_get (pc := 6) dX7_isCaught_6 fl_X7_7 hR1.1.1 rfl ?_
    refine ex_iconst (pc := 9) (v := (nI 0)) dX7_isCaught_9 (by decide) ?_
    refine ex_ildn (k := 0) (pc := 10) dX7_isCaught_10 hR1.1.2 (by first | rfl | (simp only [nI_add, nI_mul]; done) | (simp only [nI_add, nI_mul]; rfl)) (by omega) (by decide) ?_
    refine bx_icmp_ge_f (pc := 11) (tgt := 51) dX7_isCaught_11 (by decide) (by rw [hN]; exact nI_ge (by omega) (by omega)) ?_
    refine ex_iload_n (pc := 14) dX7_isCaught_14 rfl ?_
    refine ex_aload_n (pc := 15) dX7_isCaught_15 rfl ?_
    refine ex_iload_n (pc := 16) dX7_isCaught_16 rfl ?_
    refine cx_VL1i (pc := 17) dX7_isCaught_17 lk_X7_136 hR1.1.1 rfl (Nat.le_of_ble_eq_true rfl) (Nat.le_of_ble_eq_true rfl) (by omega) (c_M_isAwake hR1.1 (by omega) (show k < 8 by omega)) (fun h_17 x_17 q_17 => ?_)
    obtain ⟨e_17, rfl⟩ := q_17
    rw [e_17]
    refine ex_if_eq (pc := 20) (tgt := 42) dX7_isCaught_20 (by decide) (fun c_20 => ?_) (fun c_20 => ?_)
    · skip
      refine ex_iconst (pc := 42) (v := (nI 0)) dX7_isCaught_42 (by decide) ?_
      refine ex_ior (pc := 43) dX7_isCaught_43 ?_
      first | rw [bI_o1] | rw [bI_o0]
      refine sx_istore_n (pc := 44) dX7_isCaught_44 rfl (by decide) ?_
      show Ex _ _ _ _ _ _ [_, _, _] _ _ _
      first | refine sx_inc (pc := 45) dX7_isCaught_45 rfl rfl (by decide) ?_ | refine sx_iinc (pc := 45) dX7_isCaught_45 rfl rfl (by decide) ?_
      show Ex _ _ _ _ _ _ [_, _, _] _ _ _
      refine ex_goto (pc := 48) (tgt := 4) dX7_isCaught_48 (by decide) ?_
      first
      | (have a1 : awS s k = true := Decidable.not_not.mp (fun q => c_20 (bI_f q))
         have a2 : sgt s nt k th = true := Decidable.not_not.mp (fun q => c_35 (bI_f q))
         have z := ih (k + 1) h_32 (hq.tr hs_32) (by omega)
         rw [anyB, show (awS s k && sgt s nt k th) = true by rw [a1, a2]; rfl] at z
         exact z)
      | (have a2 : sgt s nt k th = false := Bool.eq_false_iff.mpr (bI_0.mp c_35)
         have z := ih (k + 1) h_32 (hq.tr hs_32) (by omega)
         rw [anyB, show (awS s k && sgt s nt k th) = false by rw [a2, Bool.and_false]] at z
         exact z)
      | (have a1 : awS s k = false := Bool.eq_false_iff.mpr (bI_0.mp c_20)
         have z := ih (k + 1) h1 hq (by omega)
         rw [anyB, show (awS s k && sgt s nt k th) = false by rw [a1, Bool.false_and]] at z
         exact z)
    · skip
      refine ex_aload_n (pc := 23) dX7_isCaught_23 rfl ?_
      refine ex_iload_n (pc := 24) dX7_isCaught_24 rfl ?_
      refine ex_aload_n (pc := 25) dX7_isCaught_25 rfl ?_
      refine ex_get (pc := 26) dX7_isCaught_26 fl_X7_7 hR1.1.1 rfl ?_
      refine ex_bipush (pc := 29) (v := (nI 7)) dX7_isCaught_29 (by decide) ?_
      refine ex_ildn (k := 7) (pc := 31) dX7_isCaught_31 hR1.1.2 (by first | rfl | (simp only [nI_add, nI_mul]; done) | (simp only [nI_add, nI_mul]; rfl)) (by omega) (by decide) ?_
      rw [e7]
      refine cx_VL2i (pc := 32) dX7_isCaught_32 lk_X7_208 hR1.1.1 rfl (Nat.le_of_ble_eq_true rfl) (Nat.le_of_ble_eq_true rfl) (by omega) (c_M_seesIt hR1 (by omega) (show k < n by omega) hth2) (fun h_32 x_32 q_32 => ?_)
      obtain ⟨hs_32, f_32⟩ := q_32
      rw [f_32]
      refine ex_if_eq (pc := 35) (tgt := 42) dX7_isCaught_35 (by decide) (fun c_35 => ?_) (fun c_35 => ?_)
      · skip
        refine ex_iconst (pc := 42) (v := (nI 0)) dX7_isCaught_42 (by decide) ?_
        refine ex_ior (pc := 43) dX7_isCaught_43 ?_
        first | rw [bI_o1] | rw [bI_o0]
        refine sx_istore_n (pc := 44) dX7_isCaught_44 rfl (by decide) ?_
        show Ex _ _ _ _ _ _ [_, _, _] _ _ _
        first | refine sx_inc (pc := 45) dX7_isCaught_45 rfl rfl (by decide) ?_ | refine sx_iinc (pc := 45) dX7_isCaught_45 rfl rfl (by decide) ?_
        show Ex _ _ _ _ _ _ [_, _, _] _ _ _
        refine ex_goto (pc := 48) (tgt := 4) dX7_isCaught_48 (by decide) ?_
        first
        | (have a1 : awS s k = true := Decidable.not_not.mp (fun q => c_20 (bI_f q))
           have a2 : sgt s nt k th = true := Decidable.not_not.mp (fun q => c_35 (bI_f q))
           have z := ih (k + 1) h_32 (hq.tr hs_32) (by omega)
           rw [anyB, show (awS s k && sgt s nt k th) = true by rw [a1, a2]; rfl] at z
           exact z)
        | (have a2 : sgt s nt k th = false := Bool.eq_false_iff.mpr (bI_0.mp c_35)
           have z := ih (k + 1) h_32 (hq.tr hs_32) (by omega)
           rw [anyB, show (awS s k && sgt s nt k th) = false by rw [a2, Bool.and_false]] at z
           exact z)
        | (have a1 : awS s k = false := Bool.eq_false_iff.mpr (bI_0.mp c_20)
           have z := ih (k + 1) h1 hq (by omega)
           rw [anyB, show (awS s k && sgt s nt k th) = false by rw [a1, Bool.false_and]] at z
           exact z)
      · skip
        refine ex_iconst (pc := 38) (v := (nI 1)) dX7_isCaught_38 (by decide) ?_
        refine ex_goto (pc := 39) (tgt := 43) dX7_isCaught_39 (by decide) ?_
        refine ex_ior (pc := 43) dX7_isCaught_43 ?_
        first | rw [bI_o1] | rw [bI_o0]
        refine sx_istore_n (pc := 44) dX7_isCaught_44 rfl (by decide) ?_
        show Ex _ _ _ _ _ _ [_, _, _] _ _ _
        first | refine sx_inc (pc := 45) dX7_isCaught_45 rfl rfl (by decide) ?_ | refine sx_iinc (pc := 45) dX7_isCaught_45 rfl rfl (by decide) ?_
        show Ex _ _ _ _ _ _ [_, _, _] _ _ _
        refine ex_goto (pc := 48) (tgt := 4) dX7_isCaught_48 (by decide) ?_
        first
        | (have a1 : awS s k = true := Decidable.not_not.mp (fun q => c_20 (bI_f q))
           have a2 : sgt s nt k th = true := Decidable.not_not.mp (fun q => c_35 (bI_f q))
           have z := ih (k + 1) h_32 (hq.tr hs_32) (by omega)
           rw [anyB, show (awS s k && sgt s nt k th) = true by rw [a1, a2]; rfl] at z
           exact z)
        | (have a2 : sgt s nt k th = false := Bool.eq_false_iff.mpr (bI_0.mp c_35)
           have z := ih (k + 1) h_32 (hq.tr hs_32) (by omega)
           rw [anyB, show (awS s k && sgt s nt k th) = false by rw [a2, Bool.and_false]] at z
           exact z)
        | (have a1 : awS s k = false := Bool.eq_false_iff.mpr (bI_0.mp c_20)
           have z := ih (k + 1) h1 hq (by omega)
           rw [anyB, show (awS s k && sgt s nt k th) = false by rw [a1, Bool.false_and]] at z
           exact z)
set_option maxHeartbeats 4000000 in
set_option maxRecDepth 100000 in
theorem c_M_isCaught {g : Gl} {d ks : Nat} {h : AH} {z s : Nat → Int32} {n nt : Nat} (hR : MR g h z s n nt) (hd : 6 ≤ d) {th : Nat} (e7 : s 7 = nI th) (hth2 : th < 48) : Ex g mX7_isCaught d 0 ks 0 [some (.ref (g.1 + 75)), none, none] [] h (qi (fun h' r => Sq g h h' ∧ r = bI (cgt s nt n = true))) := by
  refine ex_iconst (pc := 0) (v := (nI 0)) dX7_isCaught_0 (by decide) ?_
  refine sx_istore_n (pc := 1) dX7_isCaught_1 rfl (by decide) ?_
  show Ex _ _ _ _ _ _ [_, _, _] _ _ _
  refine ex_iconst (pc := 2) (v := (nI 0)) dX7_isCaught_2 (by decide) ?_
  refine sx_istore_n (pc := 3) dX7_isCaught_3 rfl (by decide) ?_
  show Ex _ _ _ _ _ _ [_, _, _] _ _ _
  refine (c_M_isCaught_l hR hd e7 hth2 n 0 h Sq.rf (by omega)).mono (fun h' r q => ?_)
  obtain ⟨x, rfl, e, rfl⟩ := q
  refine qi_mk ⟨e, ?_⟩
  unfold cgt gdd
  rw [thf_eq e7 hth2]

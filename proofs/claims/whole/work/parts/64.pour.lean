/-! a sheet is poured into how tired posts are; cells are read off it -/
def prS (s f : Nat → Int32) : Nat → Nat → Int32
  | 0 => s
  | k + 1 => if f k = -1000000005 then prS s f k else upd (prS s f k) (10 + 4 * k + 3) (hld (f k) (nI 99))
def prC (s f : Nat → Int32) : Nat → Nat
  | 0 => 0
  | k + 1 => if f k = -1000000005 ∨ prS s f k (10 + 4 * k + 3) = hld (f k) (nI 99) then prC s f k else prC s f k + 1
theorem pr_no {s f : Nat → Int32} {k : Nat} (h : f k = -1000000005) : prS s f (k + 1) = prS s f k ∧ prC s f (k + 1) = prC s f k := by
  rw [prS, prC, if_pos h, if_pos (Or.inl h)]
  exact ⟨rfl, rfl⟩
theorem pr_eq {s f : Nat → Int32} {k : Nat} (h : ¬ f k = -1000000005) (h2 : prS s f k (10 + 4 * k + 3) = hld (f k) (nI 99)) : prS s f (k + 1) = prS s f k ∧ prC s f (k + 1) = prC s f k := by
  rw [prS, prC, if_neg h, if_pos (Or.inr h2), ← h2, upd_self]
  exact ⟨rfl, rfl⟩
theorem pr_ne {s f : Nat → Int32} {k : Nat} (h : ¬ f k = -1000000005) (h2 : ¬ prS s f k (10 + 4 * k + 3) = hld (f k) (nI 99)) : prS s f (k + 1) = upd (prS s f k) (10 + 4 * k + 3) (hld (f k) (nI 99)) ∧ prC s f (k + 1) = prC s f k + 1 := by
  rw [prS, prC, if_neg h, if_neg (fun z => z.elim h h2)]
  exact ⟨rfl, rfl⟩
theorem pr_ok {s f : Nat → Int32} {n : Nat} (h : POk s n) : ∀ k, k ≤ 8 → POk (prS s f k) n ∧ lowE s (prS s f k) := by
  intro k
  induction k with
  | zero => intro _; exact ⟨h, lowE.rf⟩
  | succ k ih =>
    intro hk
    obtain ⟨a, b⟩ := ih (by omega)
    rw [prS]
    split
    · exact ⟨a, b⟩
    · exact ⟨a.trd, b.tr (lowE.up (by omega) (by omega))⟩
theorem prC_le {s f : Nat → Int32} : ∀ k, prC s f k ≤ k := by
  intro k
  induction k with
  | zero => exact Nat.le_refl _
  | succ k ih => rw [prC]; split <;> omega
def okPour (S : Sht) (sh : Int32) : Bool := bw sh 4 && !(decide (S.1 (ixI sh) = -1))
def aPour (s : Nat → Int32) (n : Nat) (S : Sht) (sh : Int32) : Int32 := if bw sh 4 then (if S.1 (ixI sh) = -1 then -1000000011 else nI (prC s (S.2.2 (ixI sh)) (min n (S.2.1 (ixI sh))))) else -1000000001
def nPour (s : Nat → Int32) (n : Nat) (S : Sht) (sh : Int32) : Nat → Int32 := if okPour S sh then prS s (S.2.2 (ixI sh)) (min n (S.2.1 (ixI sh))) else s
theorem prS_c {s f f' : Nat → Int32} : ∀ k, (∀ j, j < k → f j = f' j) → prS s f k = prS s f' k ∧ prC s f k = prC s f' k := by
  intro k
  induction k with
  | zero => intro _; exact ⟨rfl, rfl⟩
  | succ k ih =>
    intro h
    obtain ⟨a, b⟩ := ih (fun j hj => h j (by omega))
    rw [prS, prS, prC, prC, a, b, h k (by omega)]
    exact ⟨rfl, rfl⟩
set_option maxHeartbeats 4000000 in
set_option maxRecDepth 100000 in
theorem c_W_pour_l {g : Gl} {d ks : Nat} {h : AH} {ik wc : Int32} {s : Nat → Int32} {n nt i sz : Nat} {so : Int32} {cf : Nat → Int32} (hi : i < 4) (hsz : sz ≤ 24) (hs1' : h[47 + 2 * i]? = some (shC g (48 + 2 * i) so (nI sz))) (hs2' : h[48 + 2 * i]? = some (ia g 24 cf)) (hd : 2 ≤ d) : ∀ (m k : Nat) (l : Option Value) (h1 : AH), h1[0]? = some (wtC g ik wc) → CR g h1 1 (prS s cf k) n nt → FrX (rmX 1) g h h1 → k + m = min n sz → Ex g mX6_pour d 0 ks 33 [some (.ref (g.1 + 0)), some (.int (nI i)), some (.ref (g.1 + (47 + 2 * i))), some (.int (nI (prC s cf (k)))), some (.int (nI (k))), l] [] h1 (qi (fun h' r => (CR g h' 1 (prS s cf (min n sz)) n nt ∧ FrX (rmX 1) g h h') ∧ r = nI (prC s cf (min n sz)))) := by
  intro m
  induction m with
  | zero =>
    intro k l h1 hW1 hC1 hF hk
    have hs1 := hF.at (by unfold rmX; omega) (nscr (by omega)) hs1'
    have hn8 := hC1.2.1.2.1
    by_cases hle : n ≤ sz
    · skip
      refine ex_iload (pc := 33) dX6_pour_33 rfl ?_
      refine ex_aload_n (pc := 35) dX6_pour_35 rfl ?_
      refine ex_get (pc := 36) dX6_pour_36 fl_X6_10 hW1 rfl ?_
      refine ex_get (pc := 39) dX6_pour_39 fl_X6_79 hC1.1.1 rfl ?_
      refine bx_icmp_ge_t (pc := 42) (tgt := 119) dX6_pour_42 (by decide) (by rw [hC1.1.2.1]; exact nI_le (by omega) (by omega)) ?_
      refine ex_iload_n (pc := 119) dX6_pour_119 rfl ?_
      refine ex_ret dX6_pour_120 rfl ?_
      obtain rfl : k = min n sz := by omega
      exact qi_mk ⟨⟨hC1, hF⟩, rfl⟩
    · skip
      refine ex_iload (pc := 33) dX6_pour_33 rfl ?_
      refine ex_aload_n (pc := 35) dX6_pour_35 rfl ?_
      refine ex_get (pc := 36) dX6_pour_36 fl_X6_10 hW1 rfl ?_
      refine ex_get (pc := 39) dX6_pour_39 fl_X6_79 hC1.1.1 rfl ?_
      refine bx_icmp_ge_f (pc := 42) (tgt := 119) dX6_pour_42 (by decide) (by rw [hC1.1.2.1]; exact nI_ge (by omega) (by omega)) ?_
      refine ex_iload (pc := 45) dX6_pour_45 rfl ?_
      refine ex_aload_n (pc := 47) dX6_pour_47 rfl ?_
      refine ex_get (pc := 48) dX6_pour_48 fl_X6_285 hs1 rfl ?_
      refine bx_icmp_ge_t (pc := 51) (tgt := 119) dX6_pour_51 (by decide) (nI_le (by omega) (by omega)) ?_
      refine ex_iload_n (pc := 119) dX6_pour_119 rfl ?_
      refine ex_ret dX6_pour_120 rfl ?_
      obtain rfl : k = min n sz := by omega
      exact qi_mk ⟨⟨hC1, hF⟩, rfl⟩
  | succ m ih =>
    intro k l h1 hW1 hC1 hF hk
    have hs1 := hF.at (by unfold rmX; omega) (nscr (by omega)) hs1'
    have hs2 := hF.at (by unfold rmX; omega) (nscr (by omega)) hs2'
    have hn8 := hC1.2.1.2.1
    obtain ⟨fp, hfp, hfp2⟩ := hC1.1.2.2.2.1
    refine ex_iload (pc := 33) dX6_pour_33 rfl ?_
    refine ex_aload_n (pc := 35) dX6_pour_35 rfl ?_
    refine ex_get (pc := 36) dX6_pour_36 fl_X6_10 hW1 rfl ?_
    refine ex_get (pc := 39) dX6_pour_39 fl_X6_79 hC1.1.1 rfl ?_
    refine bx_icmp_ge_f (pc := 42) (tgt := 119) dX6_pour_42 (by decide) (by rw [hC1.1.2.1]; exact nI_ge (by omega) (by omega)) ?_
    refine ex_iload (pc := 45) dX6_pour_45 rfl ?_
    refine ex_aload_n (pc := 47) dX6_pour_47 rfl ?_
    refine ex_get (pc := 48) dX6_pour_48 fl_X6_285 hs1 rfl ?_
    refine bx_icmp_ge_f (pc := 51) (tgt := 119) dX6_pour_51 (by decide) (nI_ge (by omega) (by omega)) ?_
    refine ex_aload_n (pc := 54) dX6_pour_54 rfl ?_
    refine ex_get (pc := 55) dX6_pour_55 fl_X6_292 hs1 rfl ?_
    refine ex_iload (pc := 58) dX6_pour_58 rfl ?_
    refine ex_ildn (k := k) (pc := 60) dX6_pour_60 hs2 rfl (by omega) (by decide) ?_
    refine ex_bipush (pc := 61) (v := (nI 99)) dX6_pour_61 (by decide) ?_
    refine cx_SL2i (pc := 63) dX6_pour_63 lk_X6_297 rfl (Nat.le_of_ble_eq_true rfl) (Nat.le_of_ble_eq_true rfl) (by omega) (c_held (by omega) _ _) (fun h_63 x_63 q_63 => ?_)
    obtain ⟨e_63, f_63⟩ := q_63
    rw [e_63, f_63]
    refine sx_istore (pc := 66) dX6_pour_66 rfl (by decide) ?_
    show Ex _ _ _ _ _ _ [_, _, _, _, _, _] _ _ _
    refine ex_aload_n (pc := 68) dX6_pour_68 rfl ?_
    refine ex_iload (pc := 69) dX6_pour_69 rfl ?_
    refine cx_VL1i (pc := 71) dX6_pour_71 lk_X6_300 hs1 rfl (Nat.le_of_ble_eq_true rfl) (Nat.le_of_ble_eq_true rfl) (by omega) (c_S_hasNumber hs1 hs2 hsz (by omega) (show k < 24 by omega)) (fun h_71 x_71 q_71 => ?_)
    obtain ⟨e_71, f_71⟩ := q_71
    rw [e_71, f_71]
    refine ex_if_eq (pc := 74) (tgt := 113) dX6_pour_74 (by decide) (fun c_74 => ?_) (fun c_74 => ?_)
    · skip
      first | refine sx_inc (pc := 113) dX6_pour_113 rfl rfl (by decide) ?_ | refine sx_iinc (pc := 113) dX6_pour_113 rfl rfl (by decide) ?_
      show Ex _ _ _ _ _ _ [_, _, _, _, _, _] _ _ _
      refine ex_goto (pc := 116) (tgt := 33) dX6_pour_116 (by decide) ?_
      have kn : cf k = -1000000005 := Decidable.not_not.mp (fun q => (bI_0.mp c_74) ⟨by omega, q⟩)
      obtain ⟨q1, q2⟩ := pr_no (s := s) kn
      have z := ih (k + 1) (some (.int (hld (cf k) (nI 99)))) h1 hW1 (by rw [q1]; exact hC1) hF (by omega)
      rw [q2] at z
      exact z
    · skip
      refine ex_aload_n (pc := 77) dX6_pour_77 rfl ?_
      refine ex_get (pc := 78) dX6_pour_78 fl_X6_10 hW1 rfl ?_
      refine ex_get (pc := 81) dX6_pour_81 fl_X6_90 hC1.1.1 rfl ?_
      refine ex_iload (pc := 84) dX6_pour_84 rfl ?_
      refine ex_aldn (k := k) (v := .ref (g.1 + (1 + 4 + k))) (pc := 86) dX6_pour_86 rfl hfp rfl (by omega) (by decide) (congrArg va_rf (hfp2 k (by omega))) ?_
      refine ex_get (pc := 87) dX6_pour_87 fl_X6_103 (hC1.1.2.2.2.2.1 k (by omega)) rfl ?_
      refine ex_iload (pc := 90) dX6_pour_90 rfl ?_
      refine ex_icmp_eq (pc := 92) (tgt := 113) dX6_pour_92 (by decide) (fun c_92 => ?_) (fun c_92 => ?_)
      · skip
        first | refine sx_inc (pc := 113) dX6_pour_113 rfl rfl (by decide) ?_ | refine sx_iinc (pc := 113) dX6_pour_113 rfl rfl (by decide) ?_
        show Ex _ _ _ _ _ _ [_, _, _, _, _, _] _ _ _
        refine ex_goto (pc := 116) (tgt := 33) dX6_pour_116 (by decide) ?_
        have kn : ¬ cf k = -1000000005 := (Decidable.not_not.mp (fun q => c_74 (bI_f q))).2
        obtain ⟨q1, q2⟩ := pr_eq (s := s) kn c_92
        have z := ih (k + 1) (some (.int (hld (cf k) (nI 99)))) h1 hW1 (by rw [q1]; exact hC1) hF (by omega)
        rw [q2] at z
        exact z
      · skip
        refine ex_aload_n (pc := 95) dX6_pour_95 rfl ?_
        refine ex_get (pc := 96) dX6_pour_96 fl_X6_10 hW1 rfl ?_
        refine ex_get (pc := 99) dX6_pour_99 fl_X6_90 hC1.1.1 rfl ?_
        refine ex_iload (pc := 102) dX6_pour_102 rfl ?_
        refine ex_aldn (k := k) (v := .ref (g.1 + (1 + 4 + k))) (pc := 104) dX6_pour_104 rfl hfp rfl (by omega) (by decide) (congrArg va_rf (hfp2 k (by omega))) ?_
        refine ex_iload (pc := 105) dX6_pour_105 rfl ?_
        refine ex_put (pc := 107) dX6_pour_107 fp_X6_103 (hC1.1.2.2.2.2.1 k (by omega)) (Nat.le_of_ble_eq_true rfl) rfl rfl ?_
        rw [ps_3]
        first | refine sx_inc (pc := 110) dX6_pour_110 rfl rfl (by decide) ?_ | refine sx_iinc (pc := 110) dX6_pour_110 rfl rfl (by decide) ?_
        show Ex _ _ _ _ _ _ [_, _, _, _, _, _] _ _ _
        first | refine sx_inc (pc := 113) dX6_pour_113 rfl rfl (by decide) ?_ | refine sx_iinc (pc := 113) dX6_pour_113 rfl rfl (by decide) ?_
        show Ex _ _ _ _ _ _ [_, _, _, _, _, _] _ _ _
        refine ex_goto (pc := 116) (tgt := 33) dX6_pour_116 (by decide) ?_
        have kn : ¬ cf k = -1000000005 := (Decidable.not_not.mp (fun q => c_74 (bI_f q))).2
        obtain ⟨q1, q2⟩ := pr_ne (s := s) kn c_92
        obtain ⟨w1, w2⟩ := cr_pst hC1 (i := k) (f := 3) (hld (cf k) (nI 99)) (by omega) (by omega) hC1.2.1.trd
        have z := ih (k + 1) (some (.int (hld (cf k) (nI 99)))) _ (w2.at (by unfold rmX; omega) (nscr (by omega)) hW1) (by rw [q1]; exact w1) (hF.tr w2) (by omega)
        rw [q2] at z
        exact z
set_option maxHeartbeats 4000000 in
set_option maxRecDepth 100000 in
theorem c_W_pour {g : Gl} {d ks : Nat} {h : AH} {ik wc : Int32} {s : Nat → Int32} {n nt : Nat} (hW : h[0]? = some (wtC g ik wc)) (hC : CR g h 1 s n nt) {S : Sht} (hS : ShtC g h S) (hO : SOk S) (hd : 2 ≤ d) (sh : Int32) : Ex g mX6_pour d 0 ks 0 [some (.ref (g.1 + 0)), some (.int sh), none, none, none, none] [] h (qi (fun h' r => (CR g h' 1 (nPour s n S sh) n nt ∧ FrX (rmX 1) g h h') ∧ r = aPour s n S sh)) := by
  have hR := hC.1
  have hP := hC.2.1
  have hn8 := hP.2.1
  have hN := hR.2.1
  obtain ⟨fp, hfp, hfp2⟩ := hR.2.2.2.1
  have hS0 := hS
  obtain ⟨⟨fs, hfs, hfs2⟩, hsk⟩ := hS
  refine ex_iload_n (pc := 0) dX6_pour_0 rfl ?_
  refine ex_iconst (pc := 1) (v := (nI 4)) dX6_pour_1 (by decide) ?_
  refine cx_SL2i (pc := 2) dX6_pour_2 lk_X6_69 rfl (Nat.le_of_ble_eq_true rfl) (Nat.le_of_ble_eq_true rfl) (by omega) (c_ib _ _) (fun h_2 x_2 q_2 => ?_)
  obtain ⟨e_2, f_2⟩ := q_2
  rw [e_2, f_2]
  refine ex_if_ne (pc := 5) (tgt := 11) dX6_pour_5 (by decide) (fun c_5 => ?_) (fun c_5 => ?_)
  · skip
    have b_5 := bT c_5
    obtain ⟨i, hi, rfl⟩ := bw_ex b_5
    have i_i : ixI (nI i) = i := iK (by omega)
    obtain ⟨hs1, cf, hs2, hs3⟩ := hsk i hi
    refine ex_aload_n (pc := 11) dX6_pour_11 rfl ?_
    refine ex_get (pc := 12) dX6_pour_12 fl_X6_50 hW rfl ?_
    refine ex_iload_n (pc := 15) dX6_pour_15 rfl ?_
    refine ex_aldn (k := i) (v := .ref (g.1 + (47 + 2 * i))) (pc := 16) dX6_pour_16 rfl hfs rfl (by omega) (by decide) (congrArg va_rf (hfs2 i (by omega))) ?_
    refine sx_astore_n (pc := 17) dX6_pour_17 rfl (by decide) ?_
    show Ex _ _ _ _ _ _ [_, _, _, _, _, _] _ _ _
    refine ex_aload_n (pc := 18) dX6_pour_18 rfl ?_
    refine cx_VL0i (pc := 19) dX6_pour_19 lk_X6_227 hs1 rfl (Nat.le_of_ble_eq_true rfl) (Nat.le_of_ble_eq_true rfl) (by omega) (c_S_isMissing hs1) (fun h_19 x_19 q_19 => ?_)
    obtain ⟨e_19, f_19⟩ := q_19
    rw [e_19, f_19]
    refine ex_if_eq (pc := 22) (tgt := 28) dX6_pour_22 (by decide) (fun c_22 => ?_) (fun c_22 => ?_)
    · skip
      have k1 : ¬ S.1 i = -1 := bI_0.mp c_22
      refine ex_iconst (pc := 28) (v := (nI 0)) dX6_pour_28 (by decide) ?_
      refine sx_istore_n (pc := 29) dX6_pour_29 rfl (by decide) ?_
      show Ex _ _ _ _ _ _ [_, _, _, _, _, _] _ _ _
      refine ex_iconst (pc := 30) (v := (nI 0)) dX6_pour_30 (by decide) ?_
      refine sx_istore (pc := 31) dX6_pour_31 rfl (by decide) ?_
      show Ex _ _ _ _ _ _ [_, _, _, _, _, _] _ _ _
      have ep := prS_c (s := s) (min n (S.2.1 i)) (fun j hj => hs3 j (by have := (hO i hi).2.1; omega))
      have e1 : nPour s n S (nI i) = prS s (S.2.2 i) (min n (S.2.1 i)) := by simp [nPour, okPour, b_5, i_i, k1]
      rw [e1, ← ep.1]
      refine (c_W_pour_l hi (hO i hi).2.1 hs1 hs2 hd (min n (S.2.1 i)) 0 _ h hW hC FrX.rf (by omega)).mono (fun h' r a => ?_)
      obtain ⟨x, e, a1, a2⟩ := a
      exact ⟨x, e, a1, by rw [a2, ep.2]; simp only [aPour, b_5, i_i, k1, Bool.and_self, Bool.and_true, Bool.true_and, Bool.and_false, Bool.false_and, Bool.or_true, Bool.true_or, Bool.or_false, Bool.false_or, Bool.not_true, Bool.not_false, Bool.false_eq_true, ↓reduceIte]⟩
    · skip
      have k1 : S.1 i = -1 := Decidable.not_not.mp (fun q => c_22 (bI_f q))
      refine ex_ldc (pc := 25) dX6_pour_25 cn_X6_230 ?_
      refine ex_ret dX6_pour_27 rfl ?_
      refine qi_mk ⟨?_, ?_⟩
      · have e1 : nPour s n S (nI i) = s := by simp [nPour, okPour, b_5, i_i, k1]
        rw [e1]; exact ⟨hC, FrX.rf⟩
      · simp [aPour, b_5, i_i, k1]
  · skip
    have b_5 := bF c_5
    refine ex_ldc (pc := 8) dX6_pour_8 cn_X6_73 ?_
    refine ex_ret dX6_pour_10 rfl ?_
    refine qi_mk ⟨?_, ?_⟩
    · have e1 : nPour s n S sh = s := by simp [nPour, okPour, b_5]
      rw [e1]; exact ⟨hC, FrX.rf⟩
    · simp [aPour, b_5]
set_option maxHeartbeats 4000000 in
set_option maxRecDepth 100000 in
theorem c_M_pour_l {g : Gl} {d ks : Nat} {h : AH} {z s : Nat → Int32} {n nt i sz : Nat} {f80 f81 : Nat → Int32} (hi : i < 4) (hsz : sz ≤ 24) (h80' : h[80]? = some (ia g 4 f80)) (e80 : f80 i = nI sz) (h81' : h[81]? = some (ia g 96 f81)) (hd : 2 ≤ d) : ∀ (m k : Nat) (l4 l5 : Option Value) (h1 : AH), MR g h1 z (prS s (fun j => f81 (24 * i + j)) k) n nt → FrX mX g h h1 → k + m = min n sz → Ex g mX7_pour d 0 ks 27 [some (.ref (g.1 + 75)), some (.int (nI i)), some (.int (nI (prC s (fun j => f81 (24 * i + j)) (k)))), some (.int (nI (k))), l4, l5] [] h1 (qi (fun h' r => (MR g h' z (prS s (fun j => f81 (24 * i + j)) (min n sz)) n nt ∧ FrX mX g h h') ∧ r = nI (prC s (fun j => f81 (24 * i + j)) (min n sz)))) := by
  intro m
  induction m with
  | zero =>
    intro k l4 l5 h1 hR1 hF hk
    have h80 := hF.at (by unfold mX; omega) (nscr (by omega)) h80'
    have hn8 := hR1.2.1.2.1
    by_cases hle : n < sz
    · skip
      refine ex_iload_n (pc := 27) dX7_pour_27 rfl ?_
      refine ex_aload_n (pc := 28) dX7_pour_28 rfl ?_
      refine ex_get (pc := 29) dX7_pour_29 fl_X7_22 hR1.1.1 rfl ?_
      refine ex_iload_n (pc := 32) dX7_pour_32 rfl ?_
      refine ex_ildn (k := i) (pc := 33) dX7_pour_33 h80 rfl (by omega) (by decide) ?_
      rw [e80]
      refine bx_icmp_ge_f (pc := 34) (tgt := 125) dX7_pour_34 (by decide) (nI_ge (by omega) (by omega)) ?_
      refine ex_iload_n (pc := 37) dX7_pour_37 rfl ?_
      refine ex_aload_n (pc := 38) dX7_pour_38 rfl ?_
      refine ex_get (pc := 39) dX7_pour_39 fl_X7_7 hR1.1.1 rfl ?_
      refine ex_iconst (pc := 42) (v := (nI 0)) dX7_pour_42 (by decide) ?_
      refine ex_ildn (k := 0) (pc := 43) dX7_pour_43 hR1.1.2 rfl (by decide) (by decide) ?_
      rw [hR1.2.1.1]
      refine bx_icmp_ge_t (pc := 44) (tgt := 125) dX7_pour_44 (by decide) (nI_le (by omega) (by omega)) ?_
      refine ex_iload_n (pc := 125) dX7_pour_125 rfl ?_
      refine ex_ret dX7_pour_126 rfl ?_
      obtain rfl : k = min n sz := by omega
      exact qi_mk ⟨⟨hR1, hF⟩, rfl⟩
    · skip
      refine ex_iload_n (pc := 27) dX7_pour_27 rfl ?_
      refine ex_aload_n (pc := 28) dX7_pour_28 rfl ?_
      refine ex_get (pc := 29) dX7_pour_29 fl_X7_22 hR1.1.1 rfl ?_
      refine ex_iload_n (pc := 32) dX7_pour_32 rfl ?_
      refine ex_ildn (k := i) (pc := 33) dX7_pour_33 h80 rfl (by omega) (by decide) ?_
      rw [e80]
      refine bx_icmp_ge_t (pc := 34) (tgt := 125) dX7_pour_34 (by decide) (nI_le (by omega) (by omega)) ?_
      refine ex_iload_n (pc := 125) dX7_pour_125 rfl ?_
      refine ex_ret dX7_pour_126 rfl ?_
      obtain rfl : k = min n sz := by omega
      exact qi_mk ⟨⟨hR1, hF⟩, rfl⟩
  | succ m ih =>
    intro k l4 l5 h1 hR1 hF hk
    have h80 := hF.at (by unfold mX; omega) (nscr (by omega)) h80'
    have h81 := hF.at (by unfold mX; omega) (nscr (by omega)) h81'
    have hn8 := hR1.2.1.2.1
    refine ex_iload_n (pc := 27) dX7_pour_27 rfl ?_
    refine ex_aload_n (pc := 28) dX7_pour_28 rfl ?_
    refine ex_get (pc := 29) dX7_pour_29 fl_X7_22 hR1.1.1 rfl ?_
    refine ex_iload_n (pc := 32) dX7_pour_32 rfl ?_
    refine ex_ildn (k := i) (pc := 33) dX7_pour_33 h80 rfl (by omega) (by decide) ?_
    rw [e80]
    refine bx_icmp_ge_f (pc := 34) (tgt := 125) dX7_pour_34 (by decide) (nI_ge (by omega) (by omega)) ?_
    refine ex_iload_n (pc := 37) dX7_pour_37 rfl ?_
    refine ex_aload_n (pc := 38) dX7_pour_38 rfl ?_
    refine ex_get (pc := 39) dX7_pour_39 fl_X7_7 hR1.1.1 rfl ?_
    refine ex_iconst (pc := 42) (v := (nI 0)) dX7_pour_42 (by decide) ?_
    refine ex_ildn (k := 0) (pc := 43) dX7_pour_43 hR1.1.2 rfl (by decide) (by decide) ?_
    rw [hR1.2.1.1]
    refine bx_icmp_ge_f (pc := 44) (tgt := 125) dX7_pour_44 (by decide) (nI_ge (by omega) (by omega)) ?_
    refine ex_aload_n (pc := 47) dX7_pour_47 rfl ?_
    refine ex_get (pc := 48) dX7_pour_48 fl_X7_25 hR1.1.1 rfl ?_
    refine ex_bipush (pc := 51) (v := (nI 24)) dX7_pour_51 (by decide) ?_
    refine ex_iload_n (pc := 53) dX7_pour_53 rfl ?_
    refine ex_imul (pc := 54) dX7_pour_54 ?_
    refine ex_iload_n (pc := 55) dX7_pour_55 rfl ?_
    refine ex_iadd (pc := 56) dX7_pour_56 ?_
    rw [nI_mul, nI_add]
    refine ex_ildn (k := 24 * i + k) (pc := 57) dX7_pour_57 h81 rfl (by omega) (by decide) ?_
    refine sx_istore (pc := 58) dX7_pour_58 rfl (by decide) ?_
    show Ex _ _ _ _ _ _ [_, _, _, _, _, _] _ _ _
    refine ex_iload (pc := 60) dX7_pour_60 rfl ?_
    refine ex_ldc (pc := 62) dX7_pour_62 cn_X7_68 ?_
    refine ex_icmp_ne (pc := 64) (tgt := 83) dX7_pour_64 (by decide) (fun c_64 => ?_) (fun c_64 => ?_)
    · skip
      refine ex_iload (pc := 83) dX7_pour_83 rfl ?_
      refine ex_bipush (pc := 85) (v := (nI 99)) dX7_pour_85 (by decide) ?_
      refine cx_SL2i (pc := 87) dX7_pour_87 lk_X7_94 rfl (Nat.le_of_ble_eq_true rfl) (Nat.le_of_ble_eq_true rfl) (by omega) (c_M_within _ _) (fun h_87 x_87 q_87 => ?_)
      obtain ⟨e_87, f_87⟩ := q_87
      rw [e_87, f_87, wth_hld]
      refine sx_istore (pc := 90) dX7_pour_90 rfl (by decide) ?_
      show Ex _ _ _ _ _ _ [_, _, _, _, _, _] _ _ _
      refine ex_iload_n (pc := 92) dX7_pour_92 rfl ?_
      refine ex_iload (pc := 93) dX7_pour_93 rfl ?_
      refine ex_aload_n (pc := 95) dX7_pour_95 rfl ?_
      refine ex_bipush (pc := 96) (v := (nI 10)) dX7_pour_96 (by decide) ?_
      refine ex_iconst (pc := 98) (v := (nI 4)) dX7_pour_98 (by decide) ?_
      refine ex_iload_n (pc := 99) dX7_pour_99 rfl ?_
      refine ex_imul (pc := 100) dX7_pour_100 ?_
      refine ex_iadd (pc := 101) dX7_pour_101 ?_
      refine ex_iconst (pc := 102) (v := (nI 3)) dX7_pour_102 (by decide) ?_
      refine ex_iadd (pc := 103) dX7_pour_103 ?_
      rw [nI_mul, nI_add, nI_add]
      refine ex_iload (pc := 104) dX7_pour_104 rfl ?_
      refine cx_VL2i (pc := 106) dX7_pour_106 lk_X7_188 hR1.1.1 rfl (Nat.le_of_ble_eq_true rfl) (Nat.le_of_ble_eq_true rfl) (by omega) (c_M_changes hR1.1 (k := 10 + 4 * k + 3) (by omega) _) (fun h_106 x_106 q_106 => ?_)
      obtain ⟨e_106, f_106⟩ := q_106
      rw [f_106]
      refine ex_icmp_ne (pc := 109) (tgt := 116) dX7_pour_109 (by decide) (fun c_109 => ?_) (fun c_109 => ?_)
      · skip
        refine ex_iconst (pc := 116) (v := (nI 1)) dX7_pour_116 (by decide) ?_
        refine ex_iadd (pc := 117) dX7_pour_117 ?_
        refine sx_istore_n (pc := 118) dX7_pour_118 rfl (by decide) ?_
        show Ex _ _ _ _ _ _ [_, _, _, _, _, _] _ _ _
        first | refine sx_inc (pc := 119) dX7_pour_119 rfl rfl (by decide) ?_ | refine sx_iinc (pc := 119) dX7_pour_119 rfl rfl (by decide) ?_
        show Ex _ _ _ _ _ _ [_, _, _, _, _, _] _ _ _
        refine ex_goto (pc := 122) (tgt := 27) dX7_pour_122 (by decide) ?_
        have kn : ¬ (fun j => f81 (24 * i + j)) k = -1000000005 := c_64
        obtain ⟨q1, q2⟩ := pr_ne (s := s) (f := (fun j => f81 (24 * i + j))) (k := k) kn (fun z => c_109 z.symm)
        rw [e_106]
        have z := ih (k + 1) (some (.int (f81 (24 * i + k)))) (some (.int (hld ((fun j => f81 (24 * i + j)) k) (nI 99)))) _ (by rw [q1]; exact (mr_st hR1 (lowE.up (by omega) (by omega)) hR1.2.1.trd).1) (hF.tr FrX.ms) (by omega)
        rw [q2, ← nI_add] at z
        exact z
      · skip
        refine ex_iconst (pc := 112) (v := (nI 0)) dX7_pour_112 (by decide) ?_
        refine ex_goto (pc := 113) (tgt := 117) dX7_pour_113 (by decide) ?_
        refine ex_iadd (pc := 117) dX7_pour_117 ?_
        refine sx_istore_n (pc := 118) dX7_pour_118 rfl (by decide) ?_
        show Ex _ _ _ _ _ _ [_, _, _, _, _, _] _ _ _
        first | refine sx_inc (pc := 119) dX7_pour_119 rfl rfl (by decide) ?_ | refine sx_iinc (pc := 119) dX7_pour_119 rfl rfl (by decide) ?_
        show Ex _ _ _ _ _ _ [_, _, _, _, _, _] _ _ _
        refine ex_goto (pc := 122) (tgt := 27) dX7_pour_122 (by decide) ?_
        have kn : ¬ (fun j => f81 (24 * i + j)) k = -1000000005 := c_64
        obtain ⟨q1, q2⟩ := pr_eq (s := s) (f := (fun j => f81 (24 * i + j))) (k := k) kn (Eq.symm c_109)
        have uu : upd (prS s (fun j => f81 (24 * i + j)) k) (10 + 4 * k + 3) (hld ((fun j => f81 (24 * i + j)) k) (nI 99)) = prS s (fun j => f81 (24 * i + j)) k := by rw [c_109]; exact upd_self _ _
        rw [e_106, uu]
        have z := ih (k + 1) (some (.int (f81 (24 * i + k)))) (some (.int (hld ((fun j => f81 (24 * i + j)) k) (nI 99)))) _ (by rw [q1]; have w := (mr_st hR1 (s' := prS s (fun j => f81 (24 * i + j)) k) lowE.rf hR1.2.1).1; exact w) (hF.tr FrX.ms) (by omega)
        rw [q2] at z
        rw [add0I]
        exact z
    · skip
      refine ex_aload_n (pc := 67) dX7_pour_67 rfl ?_
      refine ex_get (pc := 68) dX7_pour_68 fl_X7_7 hR1.1.1 rfl ?_
      refine ex_bipush (pc := 71) (v := (nI 10)) dX7_pour_71 (by decide) ?_
      refine ex_iconst (pc := 73) (v := (nI 4)) dX7_pour_73 (by decide) ?_
      refine ex_iload_n (pc := 74) dX7_pour_74 rfl ?_
      refine ex_imul (pc := 75) dX7_pour_75 ?_
      refine ex_iadd (pc := 76) dX7_pour_76 ?_
      refine ex_iconst (pc := 77) (v := (nI 3)) dX7_pour_77 (by decide) ?_
      refine ex_iadd (pc := 78) dX7_pour_78 ?_
      rw [nI_mul, nI_add, nI_add]
      refine ex_ildn (k := 10 + 4 * k + 3) (pc := 79) dX7_pour_79 hR1.1.2 rfl (by omega) (by decide) ?_
      refine ex_goto (pc := 80) (tgt := 90) dX7_pour_80 (by decide) ?_
      refine sx_istore (pc := 90) dX7_pour_90 rfl (by decide) ?_
      show Ex _ _ _ _ _ _ [_, _, _, _, _, _] _ _ _
      refine ex_iload_n (pc := 92) dX7_pour_92 rfl ?_
      refine ex_iload (pc := 93) dX7_pour_93 rfl ?_
      refine ex_aload_n (pc := 95) dX7_pour_95 rfl ?_
      refine ex_bipush (pc := 96) (v := (nI 10)) dX7_pour_96 (by decide) ?_
      refine ex_iconst (pc := 98) (v := (nI 4)) dX7_pour_98 (by decide) ?_
      refine ex_iload_n (pc := 99) dX7_pour_99 rfl ?_
      refine ex_imul (pc := 100) dX7_pour_100 ?_
      refine ex_iadd (pc := 101) dX7_pour_101 ?_
      refine ex_iconst (pc := 102) (v := (nI 3)) dX7_pour_102 (by decide) ?_
      refine ex_iadd (pc := 103) dX7_pour_103 ?_
      rw [nI_mul, nI_add, nI_add]
      refine ex_iload (pc := 104) dX7_pour_104 rfl ?_
      refine cx_VL2i (pc := 106) dX7_pour_106 lk_X7_188 hR1.1.1 rfl (Nat.le_of_ble_eq_true rfl) (Nat.le_of_ble_eq_true rfl) (by omega) (c_M_changes hR1.1 (k := 10 + 4 * k + 3) (by omega) _) (fun h_106 x_106 q_106 => ?_)
      obtain ⟨e_106, f_106⟩ := q_106
      rw [f_106]
      refine bx_icmp_ne_f (pc := 109) (tgt := 116) dX7_pour_109 (by decide) (rfl) ?_
      refine ex_iconst (pc := 112) (v := (nI 0)) dX7_pour_112 (by decide) ?_
      refine ex_goto (pc := 113) (tgt := 117) dX7_pour_113 (by decide) ?_
      refine ex_iadd (pc := 117) dX7_pour_117 ?_
      refine sx_istore_n (pc := 118) dX7_pour_118 rfl (by decide) ?_
      show Ex _ _ _ _ _ _ [_, _, _, _, _, _] _ _ _
      first | refine sx_inc (pc := 119) dX7_pour_119 rfl rfl (by decide) ?_ | refine sx_iinc (pc := 119) dX7_pour_119 rfl rfl (by decide) ?_
      show Ex _ _ _ _ _ _ [_, _, _, _, _, _] _ _ _
      refine ex_goto (pc := 122) (tgt := 27) dX7_pour_122 (by decide) ?_
      have kn : (fun j => f81 (24 * i + j)) k = -1000000005 := c_64
      obtain ⟨q1, q2⟩ := pr_no (s := s) (f := (fun j => f81 (24 * i + j))) (k := k) kn
      have uu : upd (prS s (fun j => f81 (24 * i + j)) k) (10 + 4 * k + 3) (prS s (fun j => f81 (24 * i + j)) k (10 + 4 * k + 3)) = prS s (fun j => f81 (24 * i + j)) k := upd_self _ _
      rw [e_106, uu]
      have z := ih (k + 1) (some (.int (f81 (24 * i + k)))) (some (.int (prS s (fun j => f81 (24 * i + j)) k (10 + 4 * k + 3)))) _ (by rw [q1]; have w := (mr_st hR1 (s' := prS s (fun j => f81 (24 * i + j)) k) lowE.rf hR1.2.1).1; exact w) (hF.tr FrX.ms) (by omega)
      rw [q2] at z
      rw [add0I]
      exact z
set_option maxHeartbeats 4000000 in
set_option maxRecDepth 100000 in
theorem c_M_pour {g : Gl} {d ks : Nat} {h : AH} {z s : Nat → Int32} {n nt : Nat} (hR : MR g h z s n nt) {S : Sht} (hS : ShtM g h S) (hO : SOk S) (hd : 2 ≤ d) (sh : Int32) : Ex g mX7_pour d 0 ks 0 [some (.ref (g.1 + 75)), some (.int sh), none, none, none, none] [] h (qi (fun h' r => (MR g h' z (nPour s n S sh) n nt ∧ FrX mX g h h') ∧ r = aPour s n S sh)) := by
  have hM := hR.1
  have hP := hR.2.1
  have hn8 := hP.2.1
  have hN := hP.1
  have hS0 := hS
  obtain ⟨⟨f79, h79, e79⟩, ⟨f80, h80, e80⟩, f81, h81, e81⟩ := hS
  refine ex_iload_n (pc := 0) dX7_pour_0 rfl ?_
  refine cx_SL1i (pc := 1) dX7_pour_1 lk_X7_369 rfl (Nat.le_of_ble_eq_true rfl) (Nat.le_of_ble_eq_true rfl) (by omega) (c_M_shB (by omega) _) (fun h_1 x_1 q_1 => ?_)
  obtain ⟨e_1, f_1⟩ := q_1
  rw [e_1, f_1]
  refine ex_if_ne (pc := 4) (tgt := 10) dX7_pour_4 (by decide) (fun c_4 => ?_) (fun c_4 => ?_)
  · skip
    have b_4 := bT c_4
    obtain ⟨i, hi, rfl⟩ := bw_ex b_4
    have i_i : ixI (nI i) = i := iK (by omega)
    refine ex_aload_n (pc := 10) dX7_pour_10 rfl ?_
    refine ex_get (pc := 11) dX7_pour_11 fl_X7_19 hM.1 rfl ?_
    refine ex_iload_n (pc := 14) dX7_pour_14 rfl ?_
    refine ex_ildn (k := i) (pc := 15) dX7_pour_15 h79 rfl (by omega) (by decide) ?_
    rw [e79 i hi]
    refine ex_if_ge (pc := 16) (tgt := 23) dX7_pour_16 (by decide) (fun c_16 => ?_) (fun c_16 => ?_)
    · skip
      have k1 : ¬ S.1 i = -1 := (so_ge hO hi).mp c_16
      refine ex_iconst (pc := 23) (v := (nI 0)) dX7_pour_23 (by decide) ?_
      refine sx_istore_n (pc := 24) dX7_pour_24 rfl (by decide) ?_
      show Ex _ _ _ _ _ _ [_, _, _, _, _, _] _ _ _
      refine ex_iconst (pc := 25) (v := (nI 0)) dX7_pour_25 (by decide) ?_
      refine sx_istore_n (pc := 26) dX7_pour_26 rfl (by decide) ?_
      show Ex _ _ _ _ _ _ [_, _, _, _, _, _] _ _ _
      have ep := prS_c (s := s) (f := (fun j => f81 (24 * i + j))) (f' := S.2.2 i) (min n (S.2.1 i)) (fun j hj => e81 i hi j (by have := (hO i hi).2.1; omega))
      have e1 : nPour s n S (nI i) = prS s (S.2.2 i) (min n (S.2.1 i)) := by simp [nPour, okPour, b_4, i_i, k1]
      rw [e1, ← ep.1]
      refine (c_M_pour_l hi (hO i hi).2.1 h80 (e80 i hi) h81 hd (min n (S.2.1 i)) 0 _ _ h hR FrX.rf (by omega)).mono (fun h' r a => ?_)
      obtain ⟨x, e, a1, a2⟩ := a
      exact ⟨x, e, a1, by rw [a2, ep.2]; simp only [aPour, b_4, i_i, k1, Bool.and_self, Bool.and_true, Bool.true_and, Bool.and_false, Bool.false_and, Bool.or_true, Bool.true_or, Bool.or_false, Bool.false_or, Bool.not_true, Bool.not_false, Bool.false_eq_true, ↓reduceIte]⟩
    · skip
      have k1 : S.1 i = -1 := (so_neg hO hi).mp (Int32.not_le.mp c_16)
      refine ex_ldc_w (pc := 19) dX7_pour_19 cn_X7_373 ?_
      refine ex_ret dX7_pour_22 rfl ?_
      refine qi_mk ⟨?_, ?_⟩
      · have e1 : nPour s n S (nI i) = s := by simp [nPour, okPour, b_4, i_i, k1]
        rw [e1]; exact ⟨hR, FrX.rf⟩
      · simp [aPour, b_4, i_i, k1]
  · skip
    have b_4 := bF c_4
    refine ex_ldc (pc := 7) dX7_pour_7 cn_X7_161 ?_
    refine ex_ret dX7_pour_9 rfl ?_
    refine qi_mk ⟨?_, ?_⟩
    · have e1 : nPour s n S sh = s := by simp [nPour, okPour, b_4]
      rw [e1]; exact ⟨hR, FrX.rf⟩
    · simp [aPour, b_4]

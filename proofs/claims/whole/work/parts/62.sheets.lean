/-! sheets: as both sides keep them; sheet, mark -/
abbrev Sht : Type := (Nat → Int32) × (Nat → Nat) × (Nat → Nat → Int32)
def setF {α : Type} (f : Nat → α) (i : Nat) (v : α) : Nat → α := fun k => if k = i then v else f k
theorem sF_eq {α : Type} {f : Nat → α} {i : Nat} {v : α} : setF f i v i = v := if_pos rfl
theorem sF_ne {α : Type} {f : Nat → α} {i k : Nat} {v : α} (h : k ≠ i) : setF f i v k = f k := if_neg h
def ShtC (g : Gl) (h : AH) (S : Sht) : Prop := (∃ fs, h[44]? = some (ra g 4 4 fs) ∧ ∀ k, k < 4 → fs k = some (g.1 + (47 + 2 * k))) ∧ ∀ k, k < 4 → h[47 + 2 * k]? = some (shC g (48 + 2 * k) (S.1 k) (nI (S.2.1 k))) ∧ ∃ cf, h[48 + 2 * k]? = some (ia g 24 cf) ∧ ∀ j, j < 24 → cf j = S.2.2 k j
def ShtM (g : Gl) (h : AH) (S : Sht) : Prop := (∃ f, h[79]? = some (ia g 4 f) ∧ ∀ k, k < 4 → f k = S.1 k) ∧ (∃ f, h[80]? = some (ia g 4 f) ∧ ∀ k, k < 4 → f k = nI (S.2.1 k)) ∧ ∃ f, h[81]? = some (ia g 96 f) ∧ ∀ k, k < 4 → ∀ j, j < 24 → f (24 * k + j) = S.2.2 k j
/-- sorts, sizes and numbers of sheets are in their ranges -/
def nbOk (v : Int32) : Prop := v = -1000000005 ∨ ∃ z : Int, -99999 ≤ z ∧ z ≤ 99999 ∧ v = iI z
def SOk (S : Sht) : Prop := ∀ k, k < 4 → (S.1 k = -1 ∨ S.1 k = nI 0 ∨ S.1 k = nI 1) ∧ S.2.1 k ≤ 24 ∧ ∀ j, j < 24 → nbOk (S.2.2 k j)
def shX (k : Nat) : Prop := 47 ≤ k ∧ k < 55
def smX (k : Nat) : Prop := k = 79 ∨ k = 80 ∨ k = 81
def shW (S : Sht) (i : Nat) (so : Int32) (sz : Nat) (f : Nat → Int32) : Sht := (setF S.1 i so, setF S.2.1 i sz, setF S.2.2 i f)
def pr2 (q p x : Nat) : Prop := x = q ∨ x = p
theorem ShtC.set {g : Gl} {h h' : AH} {S : Sht} {i : Nat} (hS : ShtC g h S) (hi : i < 4) {so : Int32} {sz : Nat} {cf f : Nat → Int32} (fr : FrX (pr2 (47 + 2 * i) (48 + 2 * i)) g h h') (e1 : h'[47 + 2 * i]? = some (shC g (48 + 2 * i) so (nI sz))) (e2 : h'[48 + 2 * i]? = some (ia g 24 cf)) (e3 : ∀ j, j < 24 → cf j = f j) : ShtC g h' (shW S i so sz f) ∧ FrX shX g h h' := by
  obtain ⟨⟨fs, a1, a2⟩, a3⟩ := hS
  refine ⟨⟨⟨fs, fr.at (by unfold pr2; omega) (nscr (by omega)) a1, a2⟩, fun k hk => ?_⟩, fr.mono (fun k hk => by unfold pr2 at hk; unfold shX; omega)⟩
  unfold shW
  by_cases e : k = i
  · subst e
    simp only [sF_eq]
    exact ⟨e1, cf, e2, e3⟩
  · obtain ⟨b1, cf', b2, b3⟩ := a3 k hk
    simp only [sF_ne e]
    exact ⟨fr.at (by unfold pr2; omega) (nscr (by omega)) b1, cf', fr.at (by unfold pr2; omega) (nscr (by omega)) b2, b3⟩
theorem so_neg {S : Sht} (hO : SOk S) {i : Nat} (hi : i < 4) : (S.1 i < 0) ↔ S.1 i = -1 := by
  rcases (hO i hi).1 with e | e | e <;> rw [e] <;> decide
theorem so_ge {S : Sht} (hO : SOk S) {i : Nat} (hi : i < 4) : (0 ≤ S.1 i) ↔ ¬ S.1 i = -1 := by
  rcases (hO i hi).1 with e | e | e <;> rw [e] <;> decide
set_option maxHeartbeats 4000000 in
set_option maxRecDepth 100000 in
theorem c_S_become_l {g : Gl} {d ks : Nat} {h : AH} {q p : Nat} {a b : Int32} (hqp : ¬ q = p) (hq : q < 90) (hp90 : p < 90) : ∀ (m k : Nat) (h1 : AH), h1[q]? = some (shC g p a b) → FrX (pr2 q p) g h h1 → ∀ (f : Nat → Int32), h1[p]? = some (ia g 24 f) → (∀ j, j < k → f j = nI 0) → k + m = 24 → Ex g mX3_become d 0 ks 12 [some (.ref (g.1 + q)), some (.int a), some (.int b), some (.int (nI (k)))] [] h1 (qv (fun h' => h'[q]? = some (shC g p a b) ∧ (∃ f', h'[p]? = some (ia g 24 f') ∧ ∀ j, j < 24 → f' j = nI 0) ∧ FrX (pr2 q p) g h h')) := by
  intro m
  induction m with
  | zero =>
    intro k h1 he hF f hp hf hk
    refine ex_iload_n (pc := 12) dX3_become_12 rfl ?_
    refine ex_bipush (pc := 13) (v := (nI 24)) dX3_become_13 (by decide) ?_
    refine bx_icmp_ge_t (pc := 15) (tgt := 31) dX3_become_15 (by decide) (by rw [show k = 24 by omega]; exact Int32.le_refl _) ?_
    refine ex_vret dX3_become_31 rfl ?_
    exact qv_mk ⟨he, ⟨f, hp, fun j hj => hf j (by omega)⟩, hF⟩
  | succ m ih =>
    intro k h1 he hF f hp hf hk
    refine ex_iload_n (pc := 12) dX3_become_12 rfl ?_
    refine ex_bipush (pc := 13) (v := (nI 24)) dX3_become_13 (by decide) ?_
    refine bx_icmp_ge_f (pc := 15) (tgt := 31) dX3_become_15 (by decide) (nI_ge (by omega) (by omega)) ?_
    refine ex_aload_n (pc := 18) dX3_become_18 rfl ?_
    refine ex_get (pc := 19) dX3_become_19 fl_X3_18 he rfl ?_
    refine ex_iload_n (pc := 22) dX3_become_22 rfl ?_
    refine ex_iconst (pc := 23) (v := (nI 0)) dX3_become_23 (by decide) ?_
    refine ex_istn (k := k) (pc := 24) dX3_become_24 hp rfl (by omega) (by decide) ?_
    first | refine sx_inc (pc := 25) dX3_become_25 rfl rfl (by decide) ?_ | refine sx_iinc (pc := 25) dX3_become_25 rfl rfl (by decide) ?_
    show Ex _ _ _ _ _ _ [_, _, _, _] _ _ _
    refine ex_goto (pc := 28) (tgt := 12) dX3_become_28 (by decide) ?_
    exact ih (k + 1) _ (gs_ne (fun z => hqp z.symm) he) (hF.tr (FrX.st (Or.inr rfl) (nscr (by omega)))) _ (gs_eq hp) (fun j hj => by
      by_cases e : j = k
      · subst e; exact upd_eq
      · rw [upd_ne e]; exact hf j (by omega)) (by omega)
set_option maxHeartbeats 4000000 in
set_option maxRecDepth 100000 in
theorem c_S_become {g : Gl} {d ks : Nat} {h : AH} {q p : Nat} {so sz : Int32} (hqp : ¬ q = p) (hq : q < 90) (hp90 : p < 90) {f : Nat → Int32} (he : h[q]? = some (shC g p so sz)) (hp : h[p]? = some (ia g 24 f)) (a b : Int32) : Ex g mX3_become d 0 ks 0 [some (.ref (g.1 + q)), some (.int a), some (.int b), none] [] h (qv (fun h' => h'[q]? = some (shC g p a b) ∧ (∃ f', h'[p]? = some (ia g 24 f') ∧ ∀ j, j < 24 → f' j = nI 0) ∧ FrX (pr2 q p) g h h')) := by
  refine ex_aload_n (pc := 0) dX3_become_0 rfl ?_
  refine ex_iload_n (pc := 1) dX3_become_1 rfl ?_
  refine ex_put (pc := 2) dX3_become_2 fp_X3_9 he (Nat.le_of_ble_eq_true rfl) rfl rfl ?_
  refine ex_aload_n (pc := 5) dX3_become_5 rfl ?_
  refine ex_iload_n (pc := 6) dX3_become_6 rfl ?_
  refine ex_put (pc := 7) dX3_become_7 fp_X3_15 (gs_eq he) (Nat.le_of_ble_eq_true rfl) rfl rfl ?_
  refine ex_iconst (pc := 10) (v := (nI 0)) dX3_become_10 (by decide) ?_
  refine sx_istore_n (pc := 11) dX3_become_11 rfl (by decide) ?_
  show Ex _ _ _ _ _ _ [_, _, _, _] _ _ _
  refine c_S_become_l hqp hq hp90 24 0 _ ?_ ?_ f ?_ (fun j hj => absurd hj (by omega)) (by omega)
  · exact gs_eq (gs_eq he)
  · exact FrX.tr (FrX.st (Or.inl rfl) (nscr (by omega))) (FrX.st (Or.inl rfl) (nscr (by omega)))
  · exact gs_ne hqp (gs_ne hqp hp)
def okSh (sh so n : Int32) : Bool := bw sh 4 && (decide ((-1 : Int32) ≤ so ∧ so ≤ nI 1) && (decide (so = -1) || bw n 25))
def aSheet (sh so n : Int32) : Int32 := if bw sh 4 && decide ((-1 : Int32) ≤ so ∧ so ≤ nI 1) then (if so = -1 then nI 0 else if nI 24 < n then -1000000001 else if n < 0 then -1000000014 else n) else -1000000001
def nSheet (S : Sht) (sh so n : Int32) : Sht := if okSh sh so n then shW S (ixI sh) so (if so = -1 then 0 else ixI n) (fun _ => nI 0) else S
set_option maxHeartbeats 4000000 in
set_option maxRecDepth 100000 in
theorem c_W_sheet {g : Gl} {d ks : Nat} {h : AH} {ik wc : Int32} (hW : h[0]? = some (wtC g ik wc)) {S : Sht} (hS : ShtC g h S) (hO : SOk S) (hd : 1 ≤ d) (sh so n : Int32) : Ex g mX6_sheet d 0 ks 0 [some (.ref (g.1 + 0)), some (.int sh), some (.int so), some (.int n)] [] h (qi (fun h' r => (ShtC g h' (nSheet S sh so n) ∧ FrX shX g h h') ∧ r = aSheet sh so n)) := by
  have hS0 := hS
  obtain ⟨⟨fs, hfs, hfs2⟩, hsk⟩ := hS
  refine ex_iload_n (pc := 0) dX6_sheet_0 rfl ?_
  refine ex_iconst (pc := 1) (v := (nI 4)) dX6_sheet_1 (by decide) ?_
  refine cx_SL2i (pc := 2) dX6_sheet_2 lk_X6_69 rfl (Nat.le_of_ble_eq_true rfl) (Nat.le_of_ble_eq_true rfl) (by omega) (c_ib _ _) (fun h_2 x_2 q_2 => ?_)
  obtain ⟨e_2, f_2⟩ := q_2
  rw [e_2, f_2]
  refine ex_if_eq (pc := 5) (tgt := 18) dX6_sheet_5 (by decide) (fun c_5 => ?_) (fun c_5 => ?_)
  · skip
    have b_5 := bF c_5
    refine ex_ldc (pc := 18) dX6_sheet_18 cn_X6_73 ?_
    refine ex_ret dX6_sheet_20 rfl ?_
    refine qi_mk ⟨?_, ?_⟩
    · have e1 : nSheet S sh so n = S := by simp [nSheet, okSh, b_5]
      rw [e1]; exact ⟨hS0, FrX.rf⟩
    · simp [aSheet, b_5]
  · skip
    have b_5 := bT c_5
    refine ex_iload_n (pc := 8) dX6_sheet_8 rfl ?_
    refine ex_iconst (pc := 9) (v := (-1)) dX6_sheet_9 (by decide) ?_
    refine ex_icmp_lt (pc := 10) (tgt := 18) dX6_sheet_10 (by decide) (fun c_10 => ?_) (fun c_10 => ?_)
    · skip
      refine ex_ldc (pc := 18) dX6_sheet_18 cn_X6_73 ?_
      refine ex_ret dX6_sheet_20 rfl ?_
      have k1 : ¬ ((-1 : Int32) ≤ so ∧ so ≤ nI 1) := fun q => absurd c_10 (Int32.not_lt.mpr q.1)
      refine qi_mk ⟨?_, ?_⟩
      · have e1 : nSheet S sh so n = S := by simp [nSheet, okSh, b_5, k1]
        rw [e1]; exact ⟨hS0, FrX.rf⟩
      · simp [aSheet, b_5, k1]
    · skip
      refine ex_iload_n (pc := 13) dX6_sheet_13 rfl ?_
      refine ex_iconst (pc := 14) (v := (nI 1)) dX6_sheet_14 (by decide) ?_
      refine ex_icmp_le (pc := 15) (tgt := 21) dX6_sheet_15 (by decide) (fun c_15 => ?_) (fun c_15 => ?_)
      · skip
        refine ex_iload_n (pc := 21) dX6_sheet_21 rfl ?_
        refine ex_iconst (pc := 22) (v := (-1)) dX6_sheet_22 (by decide) ?_
        refine ex_icmp_ne (pc := 23) (tgt := 39) dX6_sheet_23 (by decide) (fun c_23 => ?_) (fun c_23 => ?_)
        · skip
          refine ex_iload_n (pc := 39) dX6_sheet_39 rfl ?_
          refine ex_bipush (pc := 40) (v := (nI 24)) dX6_sheet_40 (by decide) ?_
          refine ex_icmp_le (pc := 42) (tgt := 48) dX6_sheet_42 (by decide) (fun c_42 => ?_) (fun c_42 => ?_)
          · skip
            refine ex_iload_n (pc := 48) dX6_sheet_48 rfl ?_
            refine ex_if_ge (pc := 49) (tgt := 56) dX6_sheet_49 (by decide) (fun c_49 => ?_) (fun c_49 => ?_)
            · skip
              obtain ⟨i, hi, rfl⟩ := bw_ex b_5
              have i_i : ixI (nI i) = i := iK (by omega)
              obtain ⟨hs1, cf, hs2, hs3⟩ := hsk i hi
              refine ex_aload_n (pc := 56) dX6_sheet_56 rfl ?_
              refine ex_get (pc := 57) dX6_sheet_57 fl_X6_50 hW rfl ?_
              refine ex_iload_n (pc := 60) dX6_sheet_60 rfl ?_
              refine ex_aldn (k := i) (v := .ref (g.1 + (47 + 2 * i))) (pc := 61) dX6_sheet_61 rfl hfs rfl (by omega) (by decide) (congrArg va_rf (hfs2 i (by omega))) ?_
              refine ex_iload_n (pc := 62) dX6_sheet_62 rfl ?_
              refine ex_iload_n (pc := 63) dX6_sheet_63 rfl ?_
              refine cx_VL2v (pc := 64) dX6_sheet_64 lk_X6_281 hs1 rfl (Nat.le_of_ble_eq_true rfl) (Nat.le_of_ble_eq_true rfl) (by omega) (c_S_become (by omega) (by omega) (by omega) hs1 hs2 _ _) (fun h_64 q_64 => ?_)
              obtain ⟨g1, ⟨f1, g2, g3⟩, g4⟩ := q_64
              refine ex_iload_n (pc := 67) dX6_sheet_67 rfl ?_
              refine ex_ret dX6_sheet_68 rfl ?_
              have k1 : (-1 : Int32) ≤ so ∧ so ≤ nI 1 := ⟨Int32.not_lt.mp c_10, c_15⟩
              obtain ⟨j, hj, rfl⟩ := nI_of (Int32.not_lt.mpr c_49)
              have hj24 : j ≤ 24 := (nI_leI hj (by omega)).mp c_42
              have i_j : ixI (nI j) = j := iK hj
              have e1 : nSheet S (nI i) so (nI j) = shW S i so j (fun _ => nI 0) := by simp [nSheet, okSh, b_5, i_i, k1, c_23, bw_t (show j < 25 by omega), i_j]
              rw [e1]
              refine qi_mk ⟨hS0.set hi g4 g1 g2 g3, ?_⟩
              simp only [aSheet, b_5, decide_eq_true k1, c_23, nI_nlt (show j ≤ 24 by omega) (by omega), nI_pos (show j < 2147483648 by omega), Bool.and_self, Bool.and_true, Bool.true_and, Bool.and_false, Bool.false_and, Bool.or_true, Bool.true_or, Bool.or_false, Bool.false_or, Bool.not_true, Bool.not_false, Bool.false_eq_true, ↓reduceIte]
            · skip
              refine ex_ldc_w (pc := 52) dX6_sheet_52 cn_X6_284 ?_
              refine ex_ret dX6_sheet_55 rfl ?_
              have k1 : (-1 : Int32) ≤ so ∧ so ≤ nI 1 := ⟨Int32.not_lt.mp c_10, c_15⟩
              have k2 : ¬ nI 24 < n := Int32.not_lt.mpr c_42
              have k3 : bw n 25 = false := decide_eq_false (fun q => absurd q.1 c_49)
              have k4 : n < 0 := Int32.not_le.mp c_49
              refine qi_mk ⟨?_, ?_⟩
              · have e1 : nSheet S sh so n = S := by simp [nSheet, okSh, b_5, k1, c_23, k2, k3, k4]
                rw [e1]; exact ⟨hS0, FrX.rf⟩
              · simp [aSheet, b_5, k1, c_23, k2, k3, k4]
          · skip
            refine ex_ldc (pc := 45) dX6_sheet_45 cn_X6_73 ?_
            refine ex_ret dX6_sheet_47 rfl ?_
            have k1 : (-1 : Int32) ≤ so ∧ so ≤ nI 1 := ⟨Int32.not_lt.mp c_10, c_15⟩
            have k2 : nI 24 < n := Int32.not_le.mp c_42
            have k3 : bw n 25 = false := by
              refine decide_eq_false (fun q => ?_)
              obtain ⟨j, hj, rfl⟩ := bw_ex (n := 25) (decide_eq_true q)
              exact absurd k2 (nI_nlt (by omega) (by omega))
            refine qi_mk ⟨?_, ?_⟩
            · have e1 : nSheet S sh so n = S := by simp [nSheet, okSh, b_5, k1, c_23, k2, k3]
              rw [e1]; exact ⟨hS0, FrX.rf⟩
            · simp [aSheet, b_5, k1, c_23, k2, k3]
        · skip
          obtain ⟨i, hi, rfl⟩ := bw_ex b_5
          have i_i : ixI (nI i) = i := iK (by omega)
          obtain ⟨hs1, cf, hs2, hs3⟩ := hsk i hi
          refine ex_aload_n (pc := 26) dX6_sheet_26 rfl ?_
          refine ex_get (pc := 27) dX6_sheet_27 fl_X6_50 hW rfl ?_
          refine ex_iload_n (pc := 30) dX6_sheet_30 rfl ?_
          refine ex_aldn (k := i) (v := .ref (g.1 + (47 + 2 * i))) (pc := 31) dX6_sheet_31 rfl hfs rfl (by omega) (by decide) (congrArg va_rf (hfs2 i (by omega))) ?_
          refine ex_iconst (pc := 32) (v := (-1)) dX6_sheet_32 (by decide) ?_
          refine ex_iconst (pc := 33) (v := (nI 0)) dX6_sheet_33 (by decide) ?_
          refine cx_VL2v (pc := 34) dX6_sheet_34 lk_X6_281 hs1 rfl (Nat.le_of_ble_eq_true rfl) (Nat.le_of_ble_eq_true rfl) (by omega) (c_S_become (by omega) (by omega) (by omega) hs1 hs2 _ _) (fun h_34 q_34 => ?_)
          obtain ⟨g1, ⟨f1, g2, g3⟩, g4⟩ := q_34
          refine ex_iconst (pc := 37) (v := 0) dX6_sheet_37 (by decide) ?_
          refine ex_ret dX6_sheet_38 rfl ?_
          subst c_23
          have e1 : nSheet S (nI i) (-1) n = shW S i (-1) 0 (fun _ => nI 0) := by simp [nSheet, okSh, b_5, i_i, show (-1 : Int32) ≤ nI 1 by decide]
          rw [e1]
          refine qi_mk ⟨hS0.set hi g4 g1 g2 g3, ?_⟩
          simp only [aSheet, b_5, show decide ((-1 : Int32) ≤ -1 ∧ (-1 : Int32) ≤ nI 1) = true by decide, Bool.and_self, Bool.and_true, Bool.true_and, Bool.and_false, Bool.false_and, Bool.or_true, Bool.true_or, Bool.or_false, Bool.false_or, Bool.not_true, Bool.not_false, Bool.false_eq_true, ↓reduceIte]
          rfl
      · skip
        refine ex_ldc (pc := 18) dX6_sheet_18 cn_X6_73 ?_
        refine ex_ret dX6_sheet_20 rfl ?_
        have k1 : ¬ ((-1 : Int32) ≤ so ∧ so ≤ nI 1) := fun q => c_15 q.2
        refine qi_mk ⟨?_, ?_⟩
        · have e1 : nSheet S sh so n = S := by simp [nSheet, okSh, b_5, k1]
          rw [e1]; exact ⟨hS0, FrX.rf⟩
        · simp [aSheet, b_5, k1]
theorem c_M_shB {g : Gl} {d ks : Nat} {h : AH} (hd : 1 ≤ d) (v : Int32) : Ex g mX7_isSheet d 0 ks 0 [some (.int v)] [] h (qi (fun h' r => h' = h ∧ r = bI (bw v 4 = true))) :=
  (c_M_isSheet hd v).mono (fun h' r a => by
    obtain ⟨x, e, a1, a2⟩ := a
    exact ⟨x, e, a1, a2.trans (bI_eq (by simp [bw]))⟩)
theorem c_M_slB {g : Gl} {d ks : Nat} {h : AH} (hd : 1 ≤ d) (v : Int32) : Ex g mX7_isSlot d 0 ks 0 [some (.int v)] [] h (qi (fun h' r => h' = h ∧ r = bI (bw v 5 = true))) :=
  (c_M_isSlot hd v).mono (fun h' r a => by
    obtain ⟨x, e, a1, a2⟩ := a
    exact ⟨x, e, a1, a2.trans (bI_eq (by simp [bw]))⟩)
def bz (v a b : Int32) : Bool := decide (a ≤ v ∧ v ≤ b)
theorem c_M_inz {g : Gl} {d ks : Nat} {h : AH} (v : Int32) {a b : Int32} {lo hi : Int64} (hl : lo = a.toInt64) (hh : hi = b.toInt64) : Ex g mX7_isIn d 0 ks 0 [some (.long v.toInt64), none, some (.long lo), none, some (.long hi), none] [] h (qi (fun h' r => h' = h ∧ r = bI (bz v a b = true))) :=
  (c_M_isIn v.toInt64 lo hi).mono (fun h' r q => by
    obtain ⟨x, e, a1, a2⟩ := q
    exact ⟨x, e, a1, a2.trans (bI_eq (by rw [hl, hh, fw_le, fw_le]; simp [bz]))⟩)
theorem c_M_inN {g : Gl} {d ks : Nat} {h : AH} (v : Int32) {n : Nat} (hn : n < 2147483647) : Ex g mX7_isIn d 0 ks 0 [some (.long v.toInt64), none, some (.long 0), none, some (.long (nI n - nI 1).toInt64), none] [] h (qi (fun h' r => h' = h ∧ r = bI (bw v n = true))) :=
  (c_M_isIn v.toInt64 0 _).mono (fun h' r a => by
    obtain ⟨x, e, a1, a2⟩ := a
    exact ⟨x, e, a1, a2.trans (bI_eq (by rw [inR_iffN (by omega), ← inR_iff (by omega)]; simp [bw]))⟩)
theorem bz_so {so : Int32} : bz so (-1) (nI 1) = decide ((-1 : Int32) ≤ so ∧ so ≤ nI 1) := rfl
def c81 (k : Nat) : Prop := k = 81
set_option maxHeartbeats 4000000 in
set_option maxRecDepth 100000 in
theorem c_M_sheet_l {g : Gl} {d ks : Nat} {h : AH} {z : Nat → Int32} {i : Nat} (hi : i < 4) {so n : Int32} {f80 f0 : Nat → Int32} : ∀ (m k : Nat) (h1 : AH), h1[75]? = some (moC g z) → h1[80]? = some (ia g 4 f80) → FrX c81 g h h1 → ∀ (f : Nat → Int32), h1[81]? = some (ia g 96 f) → (∀ u, u < 4 → ∀ j, j < 24 → f (24 * u + j) = if u = i ∧ j < k then nI 0 else f0 (24 * u + j)) → k + m = 24 → Ex g mX7_sheet d 0 ks 69 [some (.ref (g.1 + 75)), some (.int (nI i)), some (.int so), some (.int n), some (.int (nI (k)))] [] h1 (qi (fun h' r => (∃ f', h'[81]? = some (ia g 96 f') ∧ (∀ u, u < 4 → ∀ j, j < 24 → f' (24 * u + j) = if u = i then nI 0 else f0 (24 * u + j)) ∧ FrX c81 g h h') ∧ r = f80 i)) := by
  intro m
  induction m with
  | zero =>
    intro k h1 hM h80 hF f h81 hf hk
    refine ex_iload (pc := 69) dX7_sheet_69 rfl ?_
    refine ex_bipush (pc := 71) (v := (nI 24)) dX7_sheet_71 (by decide) ?_
    refine bx_icmp_ge_t (pc := 73) (tgt := 95) dX7_sheet_73 (by decide) (by rw [show k = 24 by omega]; exact Int32.le_refl _) ?_
    refine ex_aload_n (pc := 95) dX7_sheet_95 rfl ?_
    refine ex_get (pc := 96) dX7_sheet_96 fl_X7_22 hM rfl ?_
    refine ex_iload_n (pc := 99) dX7_sheet_99 rfl ?_
    refine ex_ildn (k := i) (pc := 100) dX7_sheet_100 h80 rfl (by omega) (by decide) ?_
    refine ex_ret dX7_sheet_101 rfl ?_
    refine qi_mk ⟨⟨f, h81, fun u hu j hj => ?_, hF⟩, rfl⟩
    rw [hf u hu j hj]
    by_cases e : u = i
    · rw [if_pos ⟨e, by omega⟩, if_pos e]
    · rw [if_neg (fun z => e z.1), if_neg e]
  | succ m ih =>
    intro k h1 hM h80 hF f h81 hf hk
    refine ex_iload (pc := 69) dX7_sheet_69 rfl ?_
    refine ex_bipush (pc := 71) (v := (nI 24)) dX7_sheet_71 (by decide) ?_
    refine bx_icmp_ge_f (pc := 73) (tgt := 95) dX7_sheet_73 (by decide) (nI_ge (by omega) (by omega)) ?_
    refine ex_aload_n (pc := 76) dX7_sheet_76 rfl ?_
    refine ex_get (pc := 77) dX7_sheet_77 fl_X7_25 hM rfl ?_
    refine ex_bipush (pc := 80) (v := (nI 24)) dX7_sheet_80 (by decide) ?_
    refine ex_iload_n (pc := 82) dX7_sheet_82 rfl ?_
    refine ex_imul (pc := 83) dX7_sheet_83 ?_
    refine ex_iload (pc := 84) dX7_sheet_84 rfl ?_
    refine ex_iadd (pc := 86) dX7_sheet_86 ?_
    refine ex_iconst (pc := 87) (v := (nI 0)) dX7_sheet_87 (by decide) ?_
    rw [nI_mul, nI_add]
    refine ex_istn (k := 24 * i + k) (pc := 88) dX7_sheet_88 h81 rfl (by omega) (by decide) ?_
    first | refine sx_inc (pc := 89) dX7_sheet_89 rfl rfl (by decide) ?_ | refine sx_iinc (pc := 89) dX7_sheet_89 rfl rfl (by decide) ?_
    show Ex _ _ _ _ _ _ [_, _, _, _, _] _ _ _
    refine ex_goto (pc := 92) (tgt := 69) dX7_sheet_92 (by decide) ?_
    exact ih (k + 1) _ (gs_ne (by decide) hM) (gs_ne (by decide) h80) (hF.tr (FrX.st rfl (nscr (by omega)))) _ (gs_eq h81) (fun u hu j hj => by
      by_cases e : 24 * u + j = 24 * i + k
      · rw [e, upd_eq, if_pos ⟨by omega, by omega⟩]
      · rw [upd_ne e, hf u hu j hj]
        by_cases q : u = i ∧ j < k
        · rw [if_pos q, if_pos ⟨q.1, by omega⟩]
        · rw [if_neg q, if_neg (fun z => q ⟨z.1, by have := z.1; have := z.2; omega⟩)]) (by omega)
theorem ShtM.set {g : Gl} {h h' : AH} {S : Sht} {i : Nat} (hi : i < 4) {so : Int32} {sz : Nat} {f : Nat → Int32} {f79 f80 f81 : Nat → Int32} (e79 : ∀ k, k < 4 → f79 k = S.1 k) (e80 : ∀ k, k < 4 → f80 k = nI (S.2.1 k)) (e81 : ∀ k, k < 4 → ∀ j, j < 24 → f81 (24 * k + j) = S.2.2 k j) (fr : FrX smX g h h') {f' : Nat → Int32} (h1 : h'[79]? = some (ia g 4 (upd f79 i so))) (h2 : h'[80]? = some (ia g 4 (upd f80 i (nI sz)))) (h3 : h'[81]? = some (ia g 96 f')) (e3 : ∀ u, u < 4 → ∀ j, j < 24 → f' (24 * u + j) = if u = i then f j else f81 (24 * u + j)) : ShtM g h' (shW S i so sz f) ∧ FrX smX g h h' := by
  refine ⟨⟨⟨_, h1, fun k hk => ?_⟩, ⟨_, h2, fun k hk => ?_⟩, f', h3, fun k hk j hj => ?_⟩, fr⟩
  · unfold shW
    dsimp only
    by_cases e : k = i
    · subst e; rw [sF_eq, upd_eq]
    · rw [sF_ne e, upd_ne e]; exact e79 k hk
  · unfold shW
    dsimp only
    by_cases e : k = i
    · subst e; rw [sF_eq, upd_eq]
    · rw [sF_ne e, upd_ne e]; exact e80 k hk
  · unfold shW
    dsimp only
    rw [e3 k hk j hj]
    by_cases e : k = i
    · subst e; rw [sF_eq, if_pos rfl]
    · rw [sF_ne e, if_neg e]; exact e81 k hk j hj
theorem so_m1 {so : Int32} (h : so < 0) (h2 : (-1 : Int32) ≤ so) : so = -1 := by
  apply Int32.toInt_inj.mp
  rw [Int32.lt_iff_toInt_lt] at h
  rw [Int32.le_iff_toInt_le] at h2
  have e0 : (0 : Int32).toInt = 0 := by decide
  have e1 : (-1 : Int32).toInt = -1 := by decide
  omega
set_option maxHeartbeats 4000000 in
set_option maxRecDepth 100000 in
theorem c_M_sheet {g : Gl} {d ks : Nat} {h : AH} {z s : Nat → Int32} (hM : Ms g h z s) {S : Sht} (hS : ShtM g h S) (hO : SOk S) (hd : 2 ≤ d) (sh so n : Int32) : Ex g mX7_sheet d 0 ks 0 [some (.ref (g.1 + 75)), some (.int sh), some (.int so), some (.int n), none] [] h (qi (fun h' r => (ShtM g h' (nSheet S sh so n) ∧ FrX smX g h h') ∧ r = aSheet sh so n)) := by
  have hS0 := hS
  obtain ⟨⟨f79, h79, e79⟩, ⟨f80, h80, e80⟩, f81, h81, e81⟩ := hS
  refine ex_iload_n (pc := 0) dX7_sheet_0 rfl ?_
  refine cx_SL1i (pc := 1) dX7_sheet_1 lk_X7_369 rfl (Nat.le_of_ble_eq_true rfl) (Nat.le_of_ble_eq_true rfl) (by omega) (c_M_shB (by omega) _) (fun h_1 x_1 q_1 => ?_)
  obtain ⟨e_1, f_1⟩ := q_1
  rw [e_1, f_1]
  refine ex_if_eq (pc := 4) (tgt := 29) dX7_sheet_4 (by decide) (fun c_4 => ?_) (fun c_4 => ?_)
  · skip
    have b_4 := bF c_4
    refine ex_ldc (pc := 29) dX7_sheet_29 cn_X7_161 ?_
    refine ex_ret dX7_sheet_31 rfl ?_
    refine qi_mk ⟨?_, ?_⟩
    · have e1 : nSheet S sh so n = S := by simp [nSheet, okSh, b_4]
      rw [e1]; exact ⟨hS0, FrX.rf⟩
    · simp [aSheet, b_4]
  · skip
    have b_4 := bT c_4
    refine ex_iload_n (pc := 7) dX7_sheet_7 rfl ?_
    refine ex_i2l (pc := 8) dX7_sheet_8 ?_
    refine ex_ldc2_w (pc := 9) dX7_sheet_9 cn_X7_146 ?_
    refine ex_lconst (pc := 12) (v := 1) dX7_sheet_12 (by decide) ?_
    refine cx_SL3i (pc := 13) dX7_sheet_13 lk_X7_69 rfl (Nat.le_of_ble_eq_true rfl) (Nat.le_of_ble_eq_true rfl) (by omega) (c_M_inz _ (a := -1) (b := nI 1) (by decide) (by decide)) (fun h_13 x_13 q_13 => ?_)
    obtain ⟨e_13, f_13⟩ := q_13
    rw [e_13, f_13]
    refine ex_if_eq (pc := 16) (tgt := 29) dX7_sheet_16 (by decide) (fun c_16 => ?_) (fun c_16 => ?_)
    · skip
      have b_16 := bF c_16
      refine ex_ldc (pc := 29) dX7_sheet_29 cn_X7_161 ?_
      refine ex_ret dX7_sheet_31 rfl ?_
      have k1 : ¬ ((-1 : Int32) ≤ so ∧ so ≤ nI 1) := of_decide_eq_false b_16
      refine qi_mk ⟨?_, ?_⟩
      · have e1 : nSheet S sh so n = S := by simp [nSheet, okSh, b_4, k1]
        rw [e1]; exact ⟨hS0, FrX.rf⟩
      · simp [aSheet, b_4, k1]
    · skip
      have b_16 := bT c_16
      refine ex_iload_n (pc := 19) dX7_sheet_19 rfl ?_
      refine ex_if_lt (pc := 20) (tgt := 32) dX7_sheet_20 (by decide) (fun c_20 => ?_) (fun c_20 => ?_)
      · skip
        refine ex_iload_n (pc := 32) dX7_sheet_32 rfl ?_
        refine bx_if_lt_t (pc := 33) (tgt := 44) dX7_sheet_33 (by decide) (c_20) ?_
        obtain ⟨i, hi, rfl⟩ := bw_ex b_4
        have i_i : ixI (nI i) = i := iK (by omega)
        refine ex_aload_n (pc := 44) dX7_sheet_44 rfl ?_
        refine ex_get (pc := 45) dX7_sheet_45 fl_X7_19 hM.1 rfl ?_
        refine ex_iload_n (pc := 48) dX7_sheet_48 rfl ?_
        refine ex_iload_n (pc := 49) dX7_sheet_49 rfl ?_
        refine ex_istn (k := i) (pc := 50) dX7_sheet_50 h79 rfl (by omega) (by decide) ?_
        refine ex_aload_n (pc := 51) dX7_sheet_51 rfl ?_
        refine ex_get (pc := 52) dX7_sheet_52 fl_X7_22 (gs_ne (by decide) hM.1) rfl ?_
        refine ex_iload_n (pc := 55) dX7_sheet_55 rfl ?_
        refine ex_iload_n (pc := 56) dX7_sheet_56 rfl ?_
        refine bx_if_ge_f (pc := 57) (tgt := 64) dX7_sheet_57 (by decide) (Int32.not_le.mpr c_20) ?_
        refine ex_iconst (pc := 60) (v := (nI 0)) dX7_sheet_60 (by decide) ?_
        refine ex_goto (pc := 61) (tgt := 65) dX7_sheet_61 (by decide) ?_
        refine ex_istn (k := i) (pc := 65) dX7_sheet_65 (gs_ne (by decide) h80) rfl (by omega) (by decide) ?_
        refine ex_iconst (pc := 66) (v := (nI 0)) dX7_sheet_66 (by decide) ?_
        refine sx_istore (pc := 67) dX7_sheet_67 rfl (by decide) ?_
        show Ex _ _ _ _ _ _ [_, _, _, _, _] _ _ _
        obtain rfl : so = -1 := so_m1 c_20 (of_decide_eq_true b_16).1
        have e1 : nSheet S (nI i) (-1) n = shW S i (-1) 0 (fun _ => nI 0) := by simp [nSheet, okSh, b_4, i_i, show (-1 : Int32) ≤ nI 1 by decide]
        rw [e1]
        refine (c_M_sheet_l (h := ((h.set 79 (ia g 4 (upd f79 i (-1)))).set 80 (ia g 4 (upd f80 i (nI 0))))) hi (f80 := upd f80 i (nI 0)) (f0 := f81) 24 0 _ (gs_ne (by decide) (gs_ne (by decide) hM.1)) (gs_eq (gs_ne (by decide) h80)) FrX.rf f81 (gs_ne (by decide) (gs_ne (by decide) h81)) (fun u hu j hj => by rw [if_neg (fun z => absurd z.2 (by omega))]) (by omega)).mono (fun h' r a => ?_)
        obtain ⟨x, e, ⟨f', q1, q2, q3⟩, q4⟩ := a
        refine ⟨x, e, ShtM.set hi e79 e80 e81 ?_ ?_ ?_ q1 q2, ?_⟩
        · exact FrX.tr (FrX.tr (FrX.st (Or.inl rfl) (nscr (by omega))) (FrX.st (Or.inr (Or.inl rfl)) (nscr (by omega)))) (q3.mono (fun k hk => Or.inr (Or.inr hk)))
        · exact q3.at (by unfold c81; omega) (nscr (by omega)) (gs_ne (by decide) (gs_eq h79))
        · exact q3.at (by unfold c81; omega) (nscr (by omega)) (gs_eq (gs_ne (by decide) h80))
        · rw [q4, upd_eq]
          simp only [aSheet, b_4, show decide ((-1 : Int32) ≤ -1 ∧ (-1 : Int32) ≤ nI 1) = true by decide, Bool.and_self, Bool.and_true, Bool.true_and, Bool.and_false, Bool.false_and, Bool.or_true, Bool.true_or, Bool.or_false, Bool.false_or, Bool.not_true, Bool.not_false, Bool.false_eq_true, ↓reduceIte]
      · skip
        refine ex_iload_n (pc := 23) dX7_sheet_23 rfl ?_
        refine ex_bipush (pc := 24) (v := (nI 24)) dX7_sheet_24 (by decide) ?_
        refine ex_icmp_le (pc := 26) (tgt := 32) dX7_sheet_26 (by decide) (fun c_26 => ?_) (fun c_26 => ?_)
        · skip
          refine ex_iload_n (pc := 32) dX7_sheet_32 rfl ?_
          refine bx_if_lt_f (pc := 33) (tgt := 44) dX7_sheet_33 (by decide) (c_20) ?_
          refine ex_iload_n (pc := 36) dX7_sheet_36 rfl ?_
          refine ex_if_ge (pc := 37) (tgt := 44) dX7_sheet_37 (by decide) (fun c_37 => ?_) (fun c_37 => ?_)
          · skip
            obtain ⟨i, hi, rfl⟩ := bw_ex b_4
            have i_i : ixI (nI i) = i := iK (by omega)
            refine ex_aload_n (pc := 44) dX7_sheet_44 rfl ?_
            refine ex_get (pc := 45) dX7_sheet_45 fl_X7_19 hM.1 rfl ?_
            refine ex_iload_n (pc := 48) dX7_sheet_48 rfl ?_
            refine ex_iload_n (pc := 49) dX7_sheet_49 rfl ?_
            refine ex_istn (k := i) (pc := 50) dX7_sheet_50 h79 rfl (by omega) (by decide) ?_
            refine ex_aload_n (pc := 51) dX7_sheet_51 rfl ?_
            refine ex_get (pc := 52) dX7_sheet_52 fl_X7_22 (gs_ne (by decide) hM.1) rfl ?_
            refine ex_iload_n (pc := 55) dX7_sheet_55 rfl ?_
            refine ex_iload_n (pc := 56) dX7_sheet_56 rfl ?_
            refine bx_if_ge_t (pc := 57) (tgt := 64) dX7_sheet_57 (by decide) (Int32.not_lt.mp c_20) ?_
            refine ex_iload_n (pc := 64) dX7_sheet_64 rfl ?_
            refine ex_istn (k := i) (pc := 65) dX7_sheet_65 (gs_ne (by decide) h80) rfl (by omega) (by decide) ?_
            refine ex_iconst (pc := 66) (v := (nI 0)) dX7_sheet_66 (by decide) ?_
            refine sx_istore (pc := 67) dX7_sheet_67 rfl (by decide) ?_
            show Ex _ _ _ _ _ _ [_, _, _, _, _] _ _ _
            obtain ⟨j, hj, rfl⟩ := nI_of (Int32.not_lt.mpr c_37)
            have hj24 : j ≤ 24 := (nI_leI hj (by omega)).mp c_26
            have i_j : ixI (nI j) = j := iK hj
            have k1 : (-1 : Int32) ≤ so ∧ so ≤ nI 1 := of_decide_eq_true b_16
            have k2 : ¬ so = -1 := fun e => by
              have q := (Int32.not_lt.mp c_20)
              rw [e] at q
              exact absurd q (by decide)
            have e1 : nSheet S (nI i) so (nI j) = shW S i so j (fun _ => nI 0) := by simp [nSheet, okSh, b_4, i_i, k1, k2, bw_t (show j < 25 by omega), i_j]
            rw [e1]
            refine (c_M_sheet_l (h := ((h.set 79 (ia g 4 (upd f79 i so))).set 80 (ia g 4 (upd f80 i (nI j))))) hi (f80 := upd f80 i (nI j)) (f0 := f81) 24 0 _ (gs_ne (by decide) (gs_ne (by decide) hM.1)) (gs_eq (gs_ne (by decide) h80)) FrX.rf f81 (gs_ne (by decide) (gs_ne (by decide) h81)) (fun u hu j hj => by rw [if_neg (fun z => absurd z.2 (by omega))]) (by omega)).mono (fun h' r a => ?_)
            obtain ⟨x, e, ⟨f', q1, q2, q3⟩, q4⟩ := a
            refine ⟨x, e, ShtM.set hi e79 e80 e81 ?_ ?_ ?_ q1 q2, ?_⟩
            · exact FrX.tr (FrX.tr (FrX.st (Or.inl rfl) (nscr (by omega))) (FrX.st (Or.inr (Or.inl rfl)) (nscr (by omega)))) (q3.mono (fun k hk => Or.inr (Or.inr hk)))
            · exact q3.at (by unfold c81; omega) (nscr (by omega)) (gs_ne (by decide) (gs_eq h79))
            · exact q3.at (by unfold c81; omega) (nscr (by omega)) (gs_eq (gs_ne (by decide) h80))
            · rw [q4, upd_eq]
              simp only [aSheet, b_4, decide_eq_true k1, k2, nI_nlt (show j ≤ 24 by omega) (by omega), nI_pos (show j < 2147483648 by omega), Bool.and_self, Bool.and_true, Bool.true_and, Bool.and_false, Bool.false_and, Bool.or_true, Bool.true_or, Bool.or_false, Bool.false_or, Bool.not_true, Bool.not_false, Bool.false_eq_true, ↓reduceIte]
          · skip
            refine ex_ldc_w (pc := 40) dX7_sheet_40 cn_X7_372 ?_
            refine ex_ret dX7_sheet_43 rfl ?_
            have k1 : (-1 : Int32) ≤ so ∧ so ≤ nI 1 := of_decide_eq_true b_16
            have k4 : ¬ so = -1 := fun e => by rw [e] at c_20; exact c_20 (by decide)
            have k2 : ¬ nI 24 < n := Int32.not_lt.mpr c_26
            have k3 : bw n 25 = false := decide_eq_false (fun q => absurd q.1 c_37)
            have k5 : n < 0 := Int32.not_le.mp c_37
            refine qi_mk ⟨?_, ?_⟩
            · have e1 : nSheet S sh so n = S := by simp [nSheet, okSh, b_4, k1, k4, k2, k3, k5]
              rw [e1]; exact ⟨hS0, FrX.rf⟩
            · simp [aSheet, b_4, k1, k4, k2, k3, k5]
        · skip
          refine ex_ldc (pc := 29) dX7_sheet_29 cn_X7_161 ?_
          refine ex_ret dX7_sheet_31 rfl ?_
          have k1 : (-1 : Int32) ≤ so ∧ so ≤ nI 1 := of_decide_eq_true b_16
          have k4 : ¬ so = -1 := fun e => by rw [e] at c_20; exact c_20 (by decide)
          have k2 : nI 24 < n := Int32.not_le.mp c_26
          have k3 : bw n 25 = false := by
            refine decide_eq_false (fun q => ?_)
            obtain ⟨j, hj, rfl⟩ := bw_ex (n := 25) (decide_eq_true q)
            exact absurd k2 (nI_nlt (by omega) (by omega))
          refine qi_mk ⟨?_, ?_⟩
          · have e1 : nSheet S sh so n = S := by simp [nSheet, okSh, b_4, k1, k4, k2, k3]
            rw [e1]; exact ⟨hS0, FrX.rf⟩
          · simp [aSheet, b_4, k1, k4, k2, k3]

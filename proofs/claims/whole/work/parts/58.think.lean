/-! what is only thought: the room behind some hours, when the thief is caught, where one had best face, what one had best be -/
def c88 (k : Nat) : Prop := k = 88
theorem MR.re {S : Nat → Prop} {g : Gl} {h h' : AH} {z z' s : Nat → Int32} {n nt : Nat} (a : MR g h z s n nt) (f : FrX S g h h') (hM : Ms g h' z' s) : MR g h' z' s n nt := by
  obtain ⟨-, a3, a4, ⟨nm, a5⟩, fp, a6⟩ := a
  exact ⟨hM, a3, a4, f.2.2 90 (Or.inl rfl) _ _ a5, f.2.2 91 (Or.inr (Or.inl rfl)) _ _ a6⟩
theorem mX_mt {g : Gl} {h h' : AH} (f : FrX mX g h h') (h75 : h'[75]? = h[75]?) : FrX mtX g h h' := ⟨f.1, fun k hk hs => by
  by_cases e : k = 75
  · rw [e]; exact h75
  · exact f.2.1 k (fun q => hk (by unfold mX at q; unfold mtX; omega)) hs, f.2.2⟩
theorem c88_mt {g : Gl} {h h' : AH} (f : FrX c88 g h h') : FrX mtX g h h' := f.mono (fun k hk => by unfold c88 at hk; unfold mtX; omega)
def bkF (f s : Nat → Int32) (k : Nat) : Nat → Int32 := fun j => if j < k then f j else s j
theorem bk_0 (f s : Nat → Int32) : bkF f s 0 = s := by funext j; unfold bkF; rw [if_neg (by omega)]
theorem bk_up (f s : Nat → Int32) (k : Nat) : upd (bkF f s k) k (f k) = bkF f s (k + 1) := by
  funext j
  by_cases e : j = k
  · subst e; rw [upd_eq]; unfold bkF; rw [if_pos (by omega)]
  · rw [upd_ne e]; unfold bkF
    by_cases q : j < k
    · rw [if_pos q, if_pos (by omega)]
    · rw [if_neg q, if_neg (by omega)]
theorem bk_s {f s s' : Nat → Int32} (hf : ∀ j, j < 90 → f j = s j) (h : lowD s s') : bkF f s' 90 = s := by
  funext j
  unfold bkF
  by_cases q : j < 90
  · rw [if_pos q]; exact hf j q
  · rw [if_neg q]; exact h j (by omega)
set_option maxHeartbeats 4000000 in
set_option maxRecDepth 100000 in
theorem c_M_laysBy_l {g : Gl} {d ks : Nat} {h : AH} {z s : Nat → Int32} {n nt : Nat} : ∀ (m k : Nat) (h1 : AH), MR g h1 z s n nt → FrX c88 g h h1 → ∀ (f : Nat → Int32), h1[88]? = some (ia g 90 f) → (∀ j, j < k → f j = s j) → k + m = 90 → Ex g mX7_laysBy d 0 ks 2 [some (.ref (g.1 + 75)), some (.int (nI (k)))] [] h1 (qv (fun h' => MR g h' z s n nt ∧ FrX c88 g h h' ∧ ∃ f, h'[88]? = some (ia g 90 f) ∧ ∀ j, j < 90 → f j = s j)) := by
  intro m
  induction m with
  | zero =>
    intro k h1 hR hF f h88 hf hk
    refine ex_iload_n (pc := 2) dX7_laysBy_2 rfl ?_
    refine ex_bipush (pc := 3) (v := (nI 90)) dX7_laysBy_3 (by decide) ?_
    refine bx_icmp_ge_t (pc := 5) (tgt := 26) dX7_laysBy_5 (by decide) (by rw [show k = 90 by omega]; exact Int32.le_refl _) ?_
    refine ex_vret dX7_laysBy_26 rfl ?_
    exact qv_mk ⟨hR, hF, f, h88, fun j hj => hf j (by omega)⟩
  | succ m ih =>
    intro k h1 hR hF f h88 hf hk
    refine ex_iload_n (pc := 2) dX7_laysBy_2 rfl ?_
    refine ex_bipush (pc := 3) (v := (nI 90)) dX7_laysBy_3 (by decide) ?_
    refine bx_icmp_ge_f (pc := 5) (tgt := 26) dX7_laysBy_5 (by decide) (nI_ge (by omega) (by omega)) ?_
    refine ex_aload_n (pc := 8) dX7_laysBy_8 rfl ?_
    refine ex_get (pc := 9) dX7_laysBy_9 fl_X7_47 hR.1.1 rfl ?_
    refine ex_iload_n (pc := 12) dX7_laysBy_12 rfl ?_
    refine ex_aload_n (pc := 13) dX7_laysBy_13 rfl ?_
    refine ex_get (pc := 14) dX7_laysBy_14 fl_X7_7 hR.1.1 rfl ?_
    refine ex_iload_n (pc := 17) dX7_laysBy_17 rfl ?_
    refine ex_ildn (k := k) (pc := 18) dX7_laysBy_18 hR.1.2 rfl (by omega) (by decide) ?_
    refine ex_istn (k := k) (pc := 19) dX7_laysBy_19 h88 rfl (by omega) (by decide) ?_
    first | refine sx_inc (pc := 20) dX7_laysBy_20 rfl rfl (by decide) ?_ | refine sx_iinc (pc := 20) dX7_laysBy_20 rfl rfl (by decide) ?_
    show Ex _ _ _ _ _ _ [_, _] _ _ _
    refine ex_goto (pc := 23) (tgt := 2) dX7_laysBy_23 (by decide) ?_
    have f2 : FrX c88 g h1 (h1.set 88 (ia g 90 (upd f k (s k)))) := FrX.st rfl (nscr (by omega))
    exact ih (k + 1) _ (hR.fr f2 (by unfold c88; omega) (by unfold c88; omega)) (hF.tr f2) _ (gs_eq h88) (fun j hj => by
      by_cases e : j = k
      · subst e; exact upd_eq
      · rw [upd_ne e]; exact hf j (by omega)) (by omega)
set_option maxHeartbeats 4000000 in
set_option maxRecDepth 100000 in
theorem c_M_laysBy {g : Gl} {d ks : Nat} {h : AH} {z s : Nat → Int32} {n nt : Nat} (hR : MR g h z s n nt) {f : Nat → Int32} (h88 : h[88]? = some (ia g 90 f)) : Ex g mX7_laysBy d 0 ks 0 [some (.ref (g.1 + 75)), none] [] h (qv (fun h' => MR g h' z s n nt ∧ FrX c88 g h h' ∧ ∃ f, h'[88]? = some (ia g 90 f) ∧ ∀ j, j < 90 → f j = s j)) := by
  refine ex_iconst (pc := 0) (v := (nI 0)) dX7_laysBy_0 (by decide) ?_
  refine sx_istore_n (pc := 1) dX7_laysBy_1 rfl (by decide) ?_
  show Ex _ _ _ _ _ _ [_, _] _ _ _
  exact c_M_laysBy_l 90 0 h hR FrX.rf f h88 (fun j hj => absurd hj (by omega)) (by omega)
set_option maxHeartbeats 4000000 in
set_option maxRecDepth 100000 in
theorem c_M_laysBack_l {g : Gl} {d ks : Nat} {h : AH} {z s f : Nat → Int32} : ∀ (m k : Nat) (h1 : AH), Ms g h1 z (bkF f s k) → FrX mX g h h1 → h1[75]? = h[75]? → h1[88]? = some (ia g 90 f) → k + m = 90 → Ex g mX7_laysBack d 0 ks 2 [some (.ref (g.1 + 75)), some (.int (nI (k)))] [] h1 (qv (fun h' => Ms g h' z (bkF f s 90) ∧ FrX mX g h h' ∧ h'[75]? = h[75]?)) := by
  intro m
  induction m with
  | zero =>
    intro k h1 hM hF h75 h88 hk
    refine ex_iload_n (pc := 2) dX7_laysBack_2 rfl ?_
    refine ex_bipush (pc := 3) (v := (nI 90)) dX7_laysBack_3 (by decide) ?_
    refine bx_icmp_ge_t (pc := 5) (tgt := 26) dX7_laysBack_5 (by decide) (by rw [show k = 90 by omega]; exact Int32.le_refl _) ?_
    refine ex_vret dX7_laysBack_26 rfl ?_
    obtain rfl : k = 90 := by omega
    exact qv_mk ⟨hM, hF, h75⟩
  | succ m ih =>
    intro k h1 hM hF h75 h88 hk
    refine ex_iload_n (pc := 2) dX7_laysBack_2 rfl ?_
    refine ex_bipush (pc := 3) (v := (nI 90)) dX7_laysBack_3 (by decide) ?_
    refine bx_icmp_ge_f (pc := 5) (tgt := 26) dX7_laysBack_5 (by decide) (nI_ge (by omega) (by omega)) ?_
    refine ex_aload_n (pc := 8) dX7_laysBack_8 rfl ?_
    refine ex_get (pc := 9) dX7_laysBack_9 fl_X7_7 hM.1 rfl ?_
    refine ex_iload_n (pc := 12) dX7_laysBack_12 rfl ?_
    refine ex_aload_n (pc := 13) dX7_laysBack_13 rfl ?_
    refine ex_get (pc := 14) dX7_laysBack_14 fl_X7_47 hM.1 rfl ?_
    refine ex_iload_n (pc := 17) dX7_laysBack_17 rfl ?_
    refine ex_ildn (k := k) (pc := 18) dX7_laysBack_18 h88 rfl (by omega) (by decide) ?_
    refine ex_istn (k := k) (pc := 19) dX7_laysBack_19 hM.2 rfl (by omega) (by decide) ?_
    first | refine sx_inc (pc := 20) dX7_laysBack_20 rfl rfl (by decide) ?_ | refine sx_iinc (pc := 20) dX7_laysBack_20 rfl rfl (by decide) ?_
    show Ex _ _ _ _ _ _ [_, _] _ _ _
    refine ex_goto (pc := 23) (tgt := 2) dX7_laysBack_23 (by decide) ?_
    rw [bk_up]
    exact ih (k + 1) _ (hM.st _) (hF.tr FrX.ms) ((List.getElem?_set_ne (by decide)).trans h75) (gs_ne (by decide) h88) (by omega)
set_option maxHeartbeats 4000000 in
set_option maxRecDepth 100000 in
theorem c_M_laysBack {g : Gl} {d ks : Nat} {h : AH} {z s f : Nat → Int32} (hM : Ms g h z s) (h88 : h[88]? = some (ia g 90 f)) : Ex g mX7_laysBack d 0 ks 0 [some (.ref (g.1 + 75)), none] [] h (qv (fun h' => Ms g h' z (bkF f s 90) ∧ FrX mX g h h' ∧ h'[75]? = h[75]?)) := by
  refine ex_iconst (pc := 0) (v := (nI 0)) dX7_laysBack_0 (by decide) ?_
  refine sx_istore_n (pc := 1) dX7_laysBack_1 rfl (by decide) ?_
  show Ex _ _ _ _ _ _ [_, _] _ _ _
  exact c_M_laysBack_l 90 0 h (by rw [bk_0]; exact hM) FrX.rf rfl h88 (by omega)
/-- back from thinking: the row is as it was -/
theorem bk_back {g : Gl} {h h1 h2 h3 : AH} {z s s' f : Nat → Int32} {n nt : Nat} (hR : MR g h z s n nt) (hT : MT g h) (f1 : FrX c88 g h h1) (e1 : h1[88]? = some (ia g 90 f)) (hf : ∀ j, j < 90 → f j = s j) (f2 : FrX mX g h1 h2) (e75 : h2[75]? = h1[75]?) (hl : lowD s s') (hM : Ms g h3 z (bkF f s' 90)) (f3 : FrX mX g h2 h3) (e75' : h3[75]? = h2[75]?) : MR g h3 z s n nt ∧ MT g h3 ∧ FrX mtX g h h3 := by
  rw [bk_s hf hl] at hM
  have F : FrX mtX g h h3 := ((c88_mt f1).tr (mX_mt f2 e75)).tr (mX_mt f3 e75')
  refine ⟨hR.re F hM, ?_, F⟩
  obtain ⟨⟨a1, b1⟩, ⟨a2, b2⟩, -, ⟨a4, b4⟩, a5, b5⟩ := hT
  have G : ∀ {k : Nat} {c : va_E}, k ≠ 88 → k ≠ 75 → k ≠ 76 → ¬ scr k → h[k]? = some c → h3[k]? = some c := fun q1 q2 q3 q4 e => f3.at (by unfold mX; omega) q4 (f2.at (by unfold mX; omega) q4 (f1.at (by unfold c88; omega) q4 e))
  exact ⟨⟨a1, G (by omega) (by omega) (by omega) (nscr (by omega)) b1⟩, ⟨a2, G (by omega) (by omega) (by omega) (nscr (by omega)) b2⟩, ⟨f, f3.at (by unfold mX; omega) (nscr (by omega)) (f2.at (by unfold mX; omega) (nscr (by omega)) e1)⟩, ⟨a4, G (by omega) (by omega) (by omega) (by unfold scr; omega) b4⟩, a5, G (by omega) (by omega) (by omega) (by unfold scr; omega) b5⟩
theorem ms_75 {g : Gl} {h h' : AH} {z s s' : Nat → Int32} (a : Ms g h z s) (b : Ms g h' z s') : h'[75]? = h[75]? := b.1.trans a.1.symm
theorem ThB.mk {g : Gl} {h h' : AH} {s : Nat → Int32} {n nt : Nat} (hC : CR g h' 25 s n nt) (hT : ThB g h) (f : FrX (rgX 25) g h h') : ThB g h' := by
  obtain ⟨-, ⟨x, y, u, v, a2⟩, ⟨f1, a3⟩, f2, a4⟩ := hT
  exact ⟨hC.sh, ⟨x, y, u, v, f.at (by unfold rgX; omega) (nscr (by omega)) a2⟩, ⟨f1, f.at (by unfold rgX; omega) (nscr (by omega)) a3⟩, f2, f.at (by unfold rgX; omega) (nscr (by omega)) a4⟩
theorem rm_rg {g : Gl} {h h' : AH} {b : Nat} (f : FrX (rmX b) g h h') : FrX (rgX b) g h h' := f.mono (fun k hk => by unfold rmX at hk; unfold rgX; omega)
theorem rg_th {g : Gl} {h h' : AH} (f : FrX (rgX 25) g h h') : FrX thX g h h' := f.mono (fun k hk => by unfold rgX at hk; unfold thX; omega)
theorem rg_0 {g : Gl} {h h' : AH} {c : va_E} (f : FrX (rgX 25) g h h') (e : h[0]? = some c) : h'[0]? = some c := f.at (by unfold rgX; omega) (nscr (by omega)) e
theorem rg_now {g : Gl} {h h' : AH} {s : Nat → Int32} {n nt : Nat} (f : FrX (rgX 25) g h h') (e : CR g h 1 s n nt) : CR g h' 1 s n nt := e.fr f (fun k hk => by unfold rgX at hk ⊢; omega)
noncomputable def aBehind (s : Nat → Int32) (n nt : Nat) (N w : Int32) : Int32 := if bw N 101 && bw w (5 + n) then (if ixI w < 5 then stdS (hrsS s nt n (ixI N)) n (ixI w) else hrsS s nt n (ixI N) (10 + 4 * (ixI w - 5) + 3)) else -1000000001
set_option maxHeartbeats 4000000 in
set_option maxRecDepth 100000 in
theorem c_W_behind {g : Gl} {d ks : Nat} {h : AH} {ik wc : Int32} {s : Nat → Int32} {n nt : Nat} (hW : h[0]? = some (wtC g ik wc)) (hC : CR g h 1 s n nt) (hT : ThB g h) (hok : HOk s n) (hd : 5 ≤ d) (N w : Int32) : Ex g mX6_behind d 0 ks 0 [some (.ref (g.1 + 0)), some (.int N), some (.int w)] [] h (qi (fun h' r => (ThB g h' ∧ FrX thX g h h') ∧ r = aBehind s n nt N w)) := by
  have hR := hC.1
  have hP := hC.2.1
  have hn8 := hP.2.1
  have hN := hR.2.1
  obtain ⟨fp, hfp, hfp2⟩ := hR.2.2.2.1
  refine ex_iload_n (pc := 0) dX6_behind_0 rfl ?_
  refine ex_bipush (pc := 1) (v := (nI 101)) dX6_behind_1 (by decide) ?_
  refine cx_SL2i (pc := 3) dX6_behind_3 lk_X6_69 rfl (Nat.le_of_ble_eq_true rfl) (Nat.le_of_ble_eq_true rfl) (by omega) (c_ib _ _) (fun h_3 x_3 q_3 => ?_)
  obtain ⟨e_3, f_3⟩ := q_3
  rw [e_3, f_3]
  refine ex_if_eq (pc := 6) (tgt := 25) dX6_behind_6 (by decide) (fun c_6 => ?_) (fun c_6 => ?_)
  · skip
    have b_6 := bF c_6
    refine ex_ldc (pc := 25) dX6_behind_25 cn_X6_73 ?_
    refine ex_ret dX6_behind_27 rfl ?_
    refine qi_mk ⟨⟨hT, FrX.rf⟩, ?_⟩
    simp [aBehind, b_6]
  · skip
    have b_6 := bT c_6
    refine ex_iload_n (pc := 9) dX6_behind_9 rfl ?_
    refine ex_iconst (pc := 10) (v := (nI 5)) dX6_behind_10 (by decide) ?_
    refine ex_aload_n (pc := 11) dX6_behind_11 rfl ?_
    refine ex_get (pc := 12) dX6_behind_12 fl_X6_10 hW rfl ?_
    refine ex_get (pc := 15) dX6_behind_15 fl_X6_79 hR.1 rfl ?_
    rw [hN]
    refine ex_iadd (pc := 18) dX6_behind_18 ?_
    rw [nI_add]
    refine cx_SL2i (pc := 19) dX6_behind_19 lk_X6_69 rfl (Nat.le_of_ble_eq_true rfl) (Nat.le_of_ble_eq_true rfl) (by omega) (c_ib _ _) (fun h_19 x_19 q_19 => ?_)
    obtain ⟨e_19, f_19⟩ := q_19
    rw [e_19, f_19]
    refine ex_if_ne (pc := 22) (tgt := 28) dX6_behind_22 (by decide) (fun c_22 => ?_) (fun c_22 => ?_)
    · skip
      have b_22 := bT c_22
      obtain ⟨w0, hw0, rfl⟩ := bw_ex b_22
      have i_w : ixI (nI w0) = w0 := iK (by omega)
      obtain ⟨s0, w00, h25⟩ := hT.1.1
      refine ex_aload_n (pc := 28) dX6_behind_28 rfl ?_
      refine ex_get (pc := 29) dX6_behind_29 fl_X6_23 hW rfl ?_
      refine ex_aload_n (pc := 32) dX6_behind_32 rfl ?_
      refine ex_get (pc := 33) dX6_behind_33 fl_X6_10 hW rfl ?_
      refine cx_VL1v (pc := 36) dX6_behind_36 lk_X6_219 h25 rfl (Nat.le_of_ble_eq_true rfl) (Nat.le_of_ble_eq_true rfl) (by omega) (c_R_becomeAs (b := 25) (o := 1) (by omega) (Or.inr (by omega)) (by omega) hC hT.1) (fun h_36 q_36 => ?_)
      obtain ⟨r1, u1⟩ := q_36
      refine ex_aload_n (pc := 39) dX6_behind_39 rfl ?_
      refine ex_get (pc := 40) dX6_behind_40 fl_X6_23 (rg_0 u1 hW) rfl ?_
      refine ex_iload_n (pc := 43) dX6_behind_43 rfl ?_
      refine cx_VL1v (pc := 44) dX6_behind_44 lk_X6_212 r1.1.1 rfl (Nat.le_of_ble_eq_true rfl) (Nat.le_of_ble_eq_true rfl) (by omega) (c_R_passHours r1 hok (by omega) _) (fun h_44 q_44 => ?_)
      obtain ⟨r2, u2⟩ := q_44
      refine ex_iload_n (pc := 47) dX6_behind_47 rfl ?_
      refine ex_iconst (pc := 48) (v := (nI 5)) dX6_behind_48 (by decide) ?_
      refine ex_icmp_ge (pc := 49) (tgt := 63) dX6_behind_49 (by decide) (fun c_49 => ?_) (fun c_49 => ?_)
      · skip
        have h5 : 5 ≤ w0 := (nI_leI (by omega) (by omega)).mp c_49
        obtain ⟨fq, hfq, hfq2⟩ := r2.1.2.2.2.1
        refine ex_aload_n (pc := 63) dX6_behind_63 rfl ?_
        refine ex_get (pc := 64) dX6_behind_64 fl_X6_23 (rg_0 (u1.tr (rm_rg u2)) hW) rfl ?_
        refine ex_get (pc := 67) dX6_behind_67 fl_X6_90 r2.1.1 rfl ?_
        refine ex_iload_n (pc := 70) dX6_behind_70 rfl ?_
        refine ex_iconst (pc := 71) (v := (nI 5)) dX6_behind_71 (by decide) ?_
        refine ex_isub (pc := 72) dX6_behind_72 ?_
        rw [nI_sub (show 5 ≤ w0 from (nI_leI (by omega) (by omega)).mp c_49)]
        refine ex_aldn (k := w0 - 5) (v := .ref (g.1 + (25 + 4 + (w0 - 5)))) (pc := 73) dX6_behind_73 rfl hfq rfl (by omega) (by decide) (congrArg va_rf (hfq2 (w0 - 5) (by omega))) ?_
        refine ex_get (pc := 74) dX6_behind_74 fl_X6_103 (r2.1.2.2.2.2.1 (w0 - 5) (by omega)) rfl ?_
        refine ex_ret dX6_behind_77 rfl ?_
        refine qi_mk ⟨⟨ThB.mk r2 hT (u1.tr (rm_rg u2)), rg_th (u1.tr (rm_rg u2))⟩, ?_⟩
        simp only [aBehind, b_6, b_22, i_w, show ¬ w0 < 5 by omega, Bool.and_self, Bool.and_true, Bool.true_and, Bool.and_false, Bool.false_and, Bool.or_true, Bool.true_or, Bool.or_false, Bool.false_or, Bool.not_true, Bool.not_false, Bool.false_eq_true, ↓reduceIte]
      · skip
        have h5 : w0 < 5 := Nat.not_le.mp (fun q => c_49 (nI_le q (by omega)))
        refine ex_aload_n (pc := 52) dX6_behind_52 rfl ?_
        refine ex_get (pc := 53) dX6_behind_53 fl_X6_23 (rg_0 (u1.tr (rm_rg u2)) hW) rfl ?_
        refine ex_iload_n (pc := 56) dX6_behind_56 rfl ?_
        refine cx_VL1i (pc := 57) dX6_behind_57 lk_X6_216 r2.1.1 rfl (Nat.le_of_ble_eq_true rfl) (Nat.le_of_ble_eq_true rfl) (by omega) (c_R_standing r2.1 (by omega) h5) (fun h_57 x_57 q_57 => ?_)
        obtain ⟨e_57, f_57⟩ := q_57
        rw [e_57, f_57]
        refine ex_goto (pc := 60) (tgt := 77) dX6_behind_60 (by decide) ?_
        refine ex_ret dX6_behind_77 rfl ?_
        refine qi_mk ⟨⟨ThB.mk r2 hT (u1.tr (rm_rg u2)), rg_th (u1.tr (rm_rg u2))⟩, ?_⟩
        simp only [aBehind, b_6, b_22, i_w, h5, Bool.and_self, Bool.and_true, Bool.true_and, Bool.and_false, Bool.false_and, Bool.or_true, Bool.true_or, Bool.or_false, Bool.false_or, Bool.not_true, Bool.not_false, Bool.false_eq_true, ↓reduceIte]
    · skip
      have b_22 := bF c_22
      refine ex_ldc (pc := 25) dX6_behind_25 cn_X6_73 ?_
      refine ex_ret dX6_behind_27 rfl ?_
      refine qi_mk ⟨⟨hT, FrX.rf⟩, ?_⟩
      simp [aBehind, b_6, b_22]
set_option maxHeartbeats 4000000 in
set_option maxRecDepth 100000 in
theorem c_M_behind {g : Gl} {d ks : Nat} {h : AH} {z s : Nat → Int32} {n nt : Nat} (hR : MR g h z s n nt) (hT : MT g h) (hok : HOk s n) (hd : 9 ≤ d) (N w : Int32) : Ex g mX7_behind d 0 ks 0 [some (.ref (g.1 + 75)), some (.int N), some (.int w), none] [] h (qi (fun h' r => (MR g h' z s n nt ∧ MT g h' ∧ FrX mtX g h h') ∧ r = aBehind s n nt N w)) := by
  have hM := hR.1
  have hP := hR.2.1
  have hn8 := hP.2.1
  have hN := hP.1
  refine ex_iload_n (pc := 0) dX7_behind_0 rfl ?_
  refine ex_i2l (pc := 1) dX7_behind_1 ?_
  refine ex_lconst (pc := 2) (v := 0) dX7_behind_2 (by decide) ?_
  refine ex_ldc2_w (pc := 3) dX7_behind_3 cn_X7_198 ?_
  refine cx_SL3i (pc := 6) dX7_behind_6 lk_X7_69 rfl (Nat.le_of_ble_eq_true rfl) (Nat.le_of_ble_eq_true rfl) (by omega) (c_M_in _ (m := 101) (by decide)) (fun h_6 x_6 q_6 => ?_)
  obtain ⟨e_6, f_6⟩ := q_6
  rw [e_6, f_6]
  refine ex_if_eq (pc := 9) (tgt := 31) dX7_behind_9 (by decide) (fun c_9 => ?_) (fun c_9 => ?_)
  · skip
    have b_9 := bF c_9
    refine ex_ldc (pc := 31) dX7_behind_31 cn_X7_161 ?_
    refine ex_ret dX7_behind_33 rfl ?_
    refine qi_mk ⟨⟨hR, hT, FrX.rf⟩, ?_⟩
    simp [aBehind, b_9]
  · skip
    have b_9 := bT c_9
    refine ex_iload_n (pc := 12) dX7_behind_12 rfl ?_
    refine ex_if_lt (pc := 13) (tgt := 31) dX7_behind_13 (by decide) (fun c_13 => ?_) (fun c_13 => ?_)
    · skip
      refine ex_ldc (pc := 31) dX7_behind_31 cn_X7_161 ?_
      refine ex_ret dX7_behind_33 rfl ?_
      refine qi_mk ⟨⟨hR, hT, FrX.rf⟩, ?_⟩
      have k1 : bw w (5 + n) = false := decide_eq_false (fun q => absurd c_13 (Int32.not_lt.mpr q.1))
      simp [aBehind, k1]
    · skip
      refine ex_iload_n (pc := 16) dX7_behind_16 rfl ?_
      refine ex_iconst (pc := 17) (v := (nI 4)) dX7_behind_17 (by decide) ?_
      refine ex_icmp_le (pc := 18) (tgt := 34) dX7_behind_18 (by decide) (fun c_18 => ?_) (fun c_18 => ?_)
      · skip
        obtain ⟨f0, h88⟩ := hT.2.2.1
        have h5 : ∃ w0, w0 < 5 ∧ w = nI w0 := by
          obtain ⟨j, hj, e⟩ := nI_of c_13
          exact ⟨j, by have := (nI_leI hj (by omega)).mp (e ▸ c_18); omega, e⟩
        obtain ⟨w0, h5, rfl⟩ := h5
        have i_w : ixI (nI w0) = w0 := iK (by omega)
        have k1 : bw (nI w0) (5 + n) = true := bw_t (by omega)
        refine ex_aload_n (pc := 34) dX7_behind_34 rfl ?_
        refine cx_VL0v (pc := 35) dX7_behind_35 lk_X7_253 hM.1 rfl (Nat.le_of_ble_eq_true rfl) (Nat.le_of_ble_eq_true rfl) (by omega) (c_M_laysBy hR h88) (fun h_35 q_35 => ?_)
        obtain ⟨r1, u1, ff, h88b, hff⟩ := q_35
        refine ex_aload_n (pc := 38) dX7_behind_38 rfl ?_
        refine ex_iload_n (pc := 39) dX7_behind_39 rfl ?_
        refine cx_VL1v (pc := 40) dX7_behind_40 lk_X7_240 r1.1.1 rfl (Nat.le_of_ble_eq_true rfl) (Nat.le_of_ble_eq_true rfl) (by omega) (c_M_goesOnMany r1 hok (by omega) _) (fun h_40 q_40 => ?_)
        obtain ⟨r2, u2⟩ := q_40
        refine ex_iload_n (pc := 43) dX7_behind_43 rfl ?_
        refine ex_iconst (pc := 44) (v := (nI 5)) dX7_behind_44 (by decide) ?_
        refine bx_icmp_ge_f (pc := 45) (tgt := 56) dX7_behind_45 (by decide) (nI_ge h5 (by omega)) ?_
        refine ex_aload_n (pc := 48) dX7_behind_48 rfl ?_
        refine ex_iload_n (pc := 49) dX7_behind_49 rfl ?_
        refine cx_VL1i (pc := 50) dX7_behind_50 lk_X7_250 r2.1.1 rfl (Nat.le_of_ble_eq_true rfl) (Nat.le_of_ble_eq_true rfl) (by omega) (c_M_roomOf r2 (by omega) h5) (fun h_50 x_50 q_50 => ?_)
        obtain ⟨e_50, f_50⟩ := q_50
        rw [e_50, f_50]
        refine ex_goto (pc := 53) (tgt := 64) dX7_behind_53 (by decide) ?_
        refine sx_istore_n (pc := 64) dX7_behind_64 rfl (by decide) ?_
        show Ex _ _ _ _ _ _ [_, _, _, _] _ _ _
        refine ex_aload_n (pc := 65) dX7_behind_65 rfl ?_
        refine cx_VL0v (pc := 66) dX7_behind_66 lk_X7_256 r2.1.1 rfl (Nat.le_of_ble_eq_true rfl) (Nat.le_of_ble_eq_true rfl) (by omega) (c_M_laysBack r2.1 (u2.at (by unfold mX; omega) (nscr (by omega)) h88b)) (fun h_66 q_66 => ?_)
        obtain ⟨r3, u3, e75⟩ := q_66
        refine ex_iload_n (pc := 69) dX7_behind_69 rfl ?_
        refine ex_ret dX7_behind_70 rfl ?_
        refine qi_mk ⟨bk_back hR hT u1 h88b hff u2 (ms_75 r1.1 r2.1) (hrs_ok hok _).2 r3 u3 e75, ?_⟩
        simp only [aBehind, b_9, k1, i_w, h5, Bool.and_self, Bool.and_true, Bool.true_and, Bool.and_false, Bool.false_and, Bool.or_true, Bool.true_or, Bool.or_false, Bool.false_or, Bool.not_true, Bool.not_false, Bool.false_eq_true, ↓reduceIte]
      · skip
        refine ex_aload_n (pc := 21) dX7_behind_21 rfl ?_
        refine ex_iload_n (pc := 22) dX7_behind_22 rfl ?_
        refine ex_iconst (pc := 23) (v := (nI 5)) dX7_behind_23 (by decide) ?_
        refine ex_isub (pc := 24) dX7_behind_24 ?_
        refine cx_VL1i (pc := 25) dX7_behind_25 lk_X7_171 hM.1 rfl (Nat.le_of_ble_eq_true rfl) (Nat.le_of_ble_eq_true rfl) (by omega) (c_M_isp hM hN hn8 (by omega) _) (fun h_25 x_25 q_25 => ?_)
        obtain ⟨e_25, f_25⟩ := q_25
        rw [e_25, f_25]
        refine ex_if_ne (pc := 28) (tgt := 34) dX7_behind_28 (by decide) (fun c_28 => ?_) (fun c_28 => ?_)
        · skip
          have b_28 := bT c_28
          obtain ⟨f0, h88⟩ := hT.2.2.1
          obtain ⟨w0, hw0, e⟩ := nI_of c_13
          subst e
          have h5 : 5 ≤ w0 := Nat.not_lt.mp (fun q => c_18 (nI_le (by omega) (by omega)))
          have i_w : ixI (nI w0) = w0 := iK (by omega)
          rw [nI_sub h5] at b_28
          have hw5 : w0 - 5 < n := by
            obtain ⟨j, hj, e⟩ := bw_ex b_28
            have := (nI_eq (by omega) (by omega)).mp e
            omega
          have k1 : bw (nI w0) (5 + n) = true := bw_t (by omega)
          refine ex_aload_n (pc := 34) dX7_behind_34 rfl ?_
          refine cx_VL0v (pc := 35) dX7_behind_35 lk_X7_253 hM.1 rfl (Nat.le_of_ble_eq_true rfl) (Nat.le_of_ble_eq_true rfl) (by omega) (c_M_laysBy hR h88) (fun h_35 q_35 => ?_)
          obtain ⟨r1, u1, ff, h88b, hff⟩ := q_35
          refine ex_aload_n (pc := 38) dX7_behind_38 rfl ?_
          refine ex_iload_n (pc := 39) dX7_behind_39 rfl ?_
          refine cx_VL1v (pc := 40) dX7_behind_40 lk_X7_240 r1.1.1 rfl (Nat.le_of_ble_eq_true rfl) (Nat.le_of_ble_eq_true rfl) (by omega) (c_M_goesOnMany r1 hok (by omega) _) (fun h_40 q_40 => ?_)
          obtain ⟨r2, u2⟩ := q_40
          refine ex_iload_n (pc := 43) dX7_behind_43 rfl ?_
          refine ex_iconst (pc := 44) (v := (nI 5)) dX7_behind_44 (by decide) ?_
          refine bx_icmp_ge_t (pc := 45) (tgt := 56) dX7_behind_45 (by decide) (nI_le h5 (by omega)) ?_
          refine ex_aload_n (pc := 56) dX7_behind_56 rfl ?_
          refine ex_iload_n (pc := 57) dX7_behind_57 rfl ?_
          refine ex_iconst (pc := 58) (v := (nI 5)) dX7_behind_58 (by decide) ?_
          refine ex_isub (pc := 59) dX7_behind_59 ?_
          refine ex_iconst (pc := 60) (v := (nI 3)) dX7_behind_60 (by decide) ?_
          rw [nI_sub h5]
          refine cx_VL2i (pc := 61) dX7_behind_61 lk_X7_76 r2.1.1 rfl (Nat.le_of_ble_eq_true rfl) (Nat.le_of_ble_eq_true rfl) (by omega) (c_M_of r2.1 (k := w0 - 5) (f := 3) (by omega)) (fun h_61 x_61 q_61 => ?_)
          obtain ⟨e_61, f_61⟩ := q_61
          rw [e_61, f_61]
          refine sx_istore_n (pc := 64) dX7_behind_64 rfl (by decide) ?_
          show Ex _ _ _ _ _ _ [_, _, _, _] _ _ _
          refine ex_aload_n (pc := 65) dX7_behind_65 rfl ?_
          refine cx_VL0v (pc := 66) dX7_behind_66 lk_X7_256 r2.1.1 rfl (Nat.le_of_ble_eq_true rfl) (Nat.le_of_ble_eq_true rfl) (by omega) (c_M_laysBack r2.1 (u2.at (by unfold mX; omega) (nscr (by omega)) h88b)) (fun h_66 q_66 => ?_)
          obtain ⟨r3, u3, e75⟩ := q_66
          refine ex_iload_n (pc := 69) dX7_behind_69 rfl ?_
          refine ex_ret dX7_behind_70 rfl ?_
          refine qi_mk ⟨bk_back hR hT u1 h88b hff u2 (ms_75 r1.1 r2.1) (hrs_ok hok _).2 r3 u3 e75, ?_⟩
          simp only [aBehind, b_9, k1, i_w, show ¬ w0 < 5 by omega, Bool.and_self, Bool.and_true, Bool.true_and, Bool.and_false, Bool.false_and, Bool.or_true, Bool.true_or, Bool.or_false, Bool.false_or, Bool.not_true, Bool.not_false, Bool.false_eq_true, ↓reduceIte]
        · skip
          have b_28 := bF c_28
          refine ex_ldc (pc := 31) dX7_behind_31 cn_X7_161 ?_
          refine ex_ret dX7_behind_33 rfl ?_
          refine qi_mk ⟨⟨hR, hT, FrX.rf⟩, ?_⟩
          have k1 : bw w (5 + n) = false := by
            cases q : bw w (5 + n) with
            | false => rfl
            | true =>
              obtain ⟨j, hj, e⟩ := bw_ex q
              subst e
              have h5 : 5 ≤ j := Nat.not_lt.mp (fun q => c_18 (nI_le (by omega) (by omega)))
              rw [nI_sub h5, bw_t (show j - 5 < n by omega)] at b_28
              cases b_28
          simp [aBehind, k1]

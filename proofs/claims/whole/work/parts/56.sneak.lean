/-! how one gets through unseen -/
def cbF (f : Nat → Bool) : Nat → Nat
  | 0 => 0
  | k + 1 => (f 0).toNat + cbF (fun i => f (i + 1)) k
theorem cnt_cb : ∀ (k x : Nat), cntF k x = cbF x.testBit k := by
  intro k
  induction k with
  | zero => intro x; rfl
  | succ k ih =>
    intro x
    have e : (fun i => x.testBit (i + 1)) = (x / 2).testBit := by funext i; exact Nat.testBit_succ x i
    rw [cntF, cbF, ih, e, Nat.testBit_zero]
    have h2 : x % 2 = 0 ∨ x % 2 = 1 := by omega
    rcases h2 with h | h
    · rw [h]; rfl
    · rw [h]; rfl
theorem cntL_cb (x : Int64) : cntL x = cbF (bL x) 64 := by
  have e : x.toBitVec.toNat.testBit = bL x := by funext i; rfl
  unfold cntL
  rw [cnt_cb, e]
theorem cb_mono : ∀ (k : Nat) (f u : Nat → Bool), (∀ i, i < k → f i = true → u i = true) → cbF f k ≤ cbF u k := by
  intro k
  induction k with
  | zero => intro f u _; exact Nat.le_refl _
  | succ k ih =>
    intro f u h
    rw [cbF, cbF]
    have h1 := ih (fun i => f (i + 1)) (fun i => u (i + 1)) (fun i hi => h (i + 1) (by omega))
    have h0 := h 0 (by omega)
    cases e : f 0 with
    | false => simp only [Bool.toNat_false]; omega
    | true => rw [h0 e]; omega
theorem cb_lt : ∀ (k : Nat) (f u : Nat → Bool), (∀ i, i < k → f i = true → u i = true) → (∃ i, i < k ∧ f i = false ∧ u i = true) → cbF f k < cbF u k := by
  intro k
  induction k with
  | zero => intro f u _ ⟨i, hi, _⟩; omega
  | succ k ih =>
    intro f u h ⟨i, hi, e1, e2⟩
    rw [cbF, cbF]
    cases i with
    | zero =>
      have h1 := cb_mono k (fun i => f (i + 1)) (fun i => u (i + 1)) (fun i hi => h (i + 1) (by omega))
      rw [e1, e2]
      simp only [Bool.toNat_false, Bool.toNat_true]
      omega
    | succ i =>
      have h1 := ih (fun i => f (i + 1)) (fun i => u (i + 1)) (fun i hi => h (i + 1) (by omega)) ⟨i, by omega, e1, e2⟩
      have h0 := h 0 (by omega)
      cases e : f 0 with
      | false => simp only [Bool.toNat_false]; omega
      | true => rw [h0 e]; omega
theorem cb_le : ∀ (k m : Nat) (f : Nat → Bool), (∀ i, m ≤ i → f i = false) → cbF f k ≤ m := by
  intro k
  induction k with
  | zero => intro m f _; exact Nat.zero_le _
  | succ k ih =>
    intro m f h
    rw [cbF]
    cases m with
    | zero =>
      rw [h 0 (Nat.le_refl _)]
      have := ih 0 (fun i => f (i + 1)) (fun i _ => h (i + 1) (Nat.zero_le _))
      simp only [Bool.toNat_false]; omega
    | succ m =>
      have := ih m (fun i => f (i + 1)) (fun i hi => h (i + 1) (by omega))
      have : (f 0).toNat ≤ 1 := Bool.toNat_le _
      omega
/-- cells of a set only -/
def b48s (x : Int64) : Prop := ∀ i, 48 ≤ i → bL x i = false
def nbB (x : Int64) (i : Nat) : Bool := (decide (1 ≤ i ∧ ¬ (i - 1) % 8 = 7) && bL x (i - 1)) || ((decide (¬ (i + 1) % 8 = 0) && bL x (i + 1)) || ((decide (8 ≤ i) && bL x (i - 8)) || bL x (i + 8)))
def snx (m x : Int64) : Int64 := setL (fun i => bL x i || (nbB x i && bL m i)) 48
theorem setL_48s (P : Nat → Bool) : b48s (setL P 48) := fun i hi => by
  by_cases h : i < 64
  · rw [b48 h]; simp; omega
  · exact bL_hi (by omega)
def csB (x : Int64) : Int64 := (shl64 (x &&& (-141289400074369)) (nI 1) ||| ush64 (x &&& (-1103823438082)) (nI 1) ||| shl64 x (nI 8) ||| ush64 x (nI 8)) &&& 281474976710655
theorem k_lc : ∀ i, i < 64 → bL (-141289400074369) i = !(decide (i < 48 ∧ i % 8 = 7)) := by decide +kernel
theorem k_fc : ∀ i, i < 64 → bL (-1103823438082) i = !(decide (i < 48 ∧ i % 8 = 0)) := by decide +kernel
theorem cs_snx {m x : Int64} (hx : b48s x) (hm : b48s m) : x ||| (csB x &&& m) = snx m x := by
  refine setL_of (by omega) (fun i hi => ?_)
  rw [bL_or, bL_and]
  by_cases h48 : i < 48
  · unfold csB nbB
    rw [bL_and, all48 i hi, bL_or, bL_or, bL_or, bL_shl _ (by omega) hi, bL_ush _ (by omega), bL_shl _ (by omega) hi, bL_ush _ (by omega), bL_and, bL_and, k_fc (1 + i) (by omega), k_lc (i - 1) (by omega)]
    rw [show 1 + i = i + 1 by omega, show 8 + i = i + 8 by omega]
    have e1 : (i + 1 < 48 ∧ (i + 1) % 8 = 0) ↔ ((i + 1) % 8 = 0 ∧ i + 1 < 48) := And.comm
    have e2 : bL x (i + 1) = (bL x (i + 1) && decide (i + 1 < 48)) := by
      by_cases q : i + 1 < 48
      · simp [q]
      · rw [hx (i + 1) (by omega)]; rfl
    simp only [h48, decide_true, Bool.true_and, Bool.and_true]
    by_cases q1 : 1 ≤ i
    · by_cases q2 : (i - 1) % 8 = 7 <;> by_cases q3 : (i + 1) % 8 = 0 <;> by_cases q4 : i + 1 < 48 <;> simp [q1, q2, q3, q4, show i - 1 < 48 by omega, Bool.or_assoc] <;> (try rw [hx (i + 1) (by omega)]) <;> (try simp)
    · have q0 : i = 0 := by omega
      subst q0
      simp
  · rw [hx i (by omega), hm i (by omega)]; simp [h48]

def lfM : Nat → Int64
  | 0 => 0
  | k + 1 => lfM k ||| shl64 1 (nI (8 * k))
def rtM : Nat → Int64
  | 0 => 0
  | k + 1 => rtM k ||| shl64 1 (nI (8 * k + 7))
theorem k_l6 : ∀ i, i < 64 → bL (lfM 6) i = decide (i < 48 ∧ i % 8 = 0) := by decide +kernel
theorem k_r6 : ∀ i, i < 64 → bL (rtM 6) i = decide (i < 48 ∧ i % 8 = 7) := by decide +kernel
def bsM (x : Int64) : Int64 := shl64 x (nI 8) ||| shr64 x (nI 8) ||| shl64 (x &&& (rtM 6 ^^^ (-1))) (nI 1) ||| shr64 (x &&& (lfM 6 ^^^ (-1))) (nI 1)
theorem bs_snx {m x : Int64} (hx : b48s x) (hm : b48s m) : x ||| (bsM x &&& m) = snx m x := by
  refine setL_of (by omega) (fun i hi => ?_)
  rw [bL_or, bL_and]
  by_cases h48 : i < 48
  · unfold bsM nbB
    rw [bL_or, bL_or, bL_or, bL_shl _ (by omega) hi, bL_shr _ (by omega) hi, bL_shl _ (by omega) hi, bL_shr _ (by omega) hi, if_pos (show 8 + i < 64 by omega), if_pos (show 1 + i < 64 by omega), bL_and, bL_and, bL_not _ (show i - 1 < 64 by omega), bL_not _ (show 1 + i < 64 by omega), k_l6 (1 + i) (by omega), k_r6 (i - 1) (by omega)]
    rw [show 1 + i = i + 1 by omega, show 8 + i = i + 8 by omega]
    simp only [h48, decide_true, Bool.true_and, Bool.and_true]
    generalize bL x (i + 8) = x8
    generalize bL x (i - 8) = y8
    generalize bL x i = x0
    generalize bL m i = m0
    by_cases q1 : 1 ≤ i
    · by_cases q2 : (i - 1) % 8 = 7 <;> by_cases q3 : (i + 1) % 8 = 0 <;> by_cases q4 : i + 1 < 48 <;> simp [q1, q2, q3, q4, show i - 1 < 48 by omega] <;> (try rw [hx (i + 1) (by omega)]) <;> (cases decide (8 ≤ i) <;> cases x8 <;> cases y8 <;> cases x0 <;> cases m0 <;> simp)
    · have q0 : i = 0 := by omega
      subst q0
      generalize bL x (0 + 1) = x1
      cases x8 <;> cases y8 <;> cases x0 <;> cases m0 <;> cases x1 <;> simp
  · rw [hx i (by omega), hm i (by omega)]; simp [h48]
def xsN (m x : Int64) : Nat → Int64
  | 0 => x
  | k + 1 => snx m (xsN m x k)
theorem xs_48 {m x : Int64} (hx : b48s x) : ∀ k, b48s (xsN m x k) := by
  intro k
  cases k with
  | zero => exact hx
  | succ k => exact setL_48s _
theorem snx_up {m x : Int64} (hx : b48s x) : ∀ i, i < 64 → bL x i = true → bL (snx m x) i = true := by
  intro i hi h
  unfold snx
  rw [b48 hi, h]
  by_cases h48 : i < 48
  · simp [h48]
  · rw [hx i (by omega)] at h; cases h
theorem snx_cnt {m x : Int64} (hx : b48s x) (hne : ¬ snx m x = x) : cntL x < cntL (snx m x) := by
  rw [cntL_cb, cntL_cb]
  refine cb_lt 64 _ _ (snx_up hx) ?_
  by_cases h : ∃ i, i < 64 ∧ bL x i = false ∧ bL (snx m x) i = true
  · exact h
  · refine absurd (bL_ext (fun i hi => ?_)) hne
    cases e : bL x i with
    | true => exact snx_up hx i hi e
    | false =>
      cases e2 : bL (snx m x) i with
      | false => rfl
      | true => exact absurd ⟨i, hi, e, e2⟩ h
theorem cnt_48 {x : Int64} (hx : b48s x) : cntL x ≤ 48 := by rw [cntL_cb]; exact cb_le 64 48 _ hx
theorem cnt_pos {x : Int64} (h : ¬ x = 0) : 1 ≤ cntL x := by have := cntL_down h; omega
theorem xs_fix {m x : Int64} {k : Nat} (h : xsN m x (k + 1) = xsN m x k) : ∀ j, k ≤ j → xsN m x j = xsN m x k := by
  intro j
  induction j with
  | zero => intro hj; rw [show k = 0 by omega]
  | succ j ih =>
    intro hj
    by_cases e : k = j + 1
    · rw [e]
    · rw [xsN, ih (by omega)]; exact h
theorem fst_some {f : Nat → Bool} : ∀ (m c k : Nat), c ≤ k → k < c + m → (∀ j, c ≤ j → j < k → f j = false) → f k = true → fstB f m c = some k := by
  intro m
  induction m with
  | zero => intro c k h1 h2; omega
  | succ m ih =>
    intro c k h1 h2 h3 h4
    rw [fstB]
    by_cases e : c = k
    · subst e; rw [if_pos h4]
    · rw [if_neg (by rw [h3 c (Nat.le_refl _) (by omega)]; decide)]
      exact ih (c + 1) k (by omega) (by omega) (fun j a b => h3 j (by omega) b) h4
theorem fst_none {f : Nat → Bool} : ∀ (m c : Nat), (∀ j, c ≤ j → j < c + m → f j = false) → fstB f m c = none := by
  intro m
  induction m with
  | zero => intro c _; rfl
  | succ m ih =>
    intro c h
    rw [fstB, if_neg (by rw [h c (Nat.le_refl _) (by omega)]; decide)]
    exact ih (c + 1) (fun j a b => h j (by omega) (by omega))
def snS (s : Nat → Int32) (n nt a t : Nat) : Option Nat := fstB (fun k => bL (xsN (setL (bld s nt n) 48) (setL (bld s nt n) 48 &&& shl64 1 (nI a)) k) t) 48 0
def aSneak (s : Nat → Int32) (n nt : Nat) (a t : Int32) : Int32 := if bw a 48 && bw t 48 then oN (-1000000005) (snS s n nt (ixI a) (ixI t)) else -1000000001
theorem and_48s {x y : Int64} (hx : b48s x) : b48s (x &&& y) := fun i hi => by rw [bL_and, hx i hi]; rfl
theorem and_cm (x y : Int64) : x &&& y = y &&& x := by apply bL_ext; intro i _; rw [bL_and, bL_and, Bool.and_comm]
set_option maxHeartbeats 4000000 in
set_option maxRecDepth 100000 in
theorem c_cellsBeside {g : Gl} {d ks : Nat} {h : AH} (x : Int64) : Ex g mX6_cellsBeside d 0 ks 0 [some (.long x), none, none, none] [] h (ql (fun h' r => h' = h ∧ r = csB x)) := by
  refine ex_lload_n (pc := 0) dX6_cellsBeside_0 rfl ?_
  refine ex_ldc2_w (pc := 1) dX6_cellsBeside_1 cn_X6_342 ?_
  refine ex_land (pc := 4) dX6_cellsBeside_4 ?_
  refine ex_iconst (pc := 5) (v := (nI 1)) dX6_cellsBeside_5 (by decide) ?_
  refine ex_lshl (pc := 6) dX6_cellsBeside_6 ?_
  refine ex_lload_n (pc := 7) dX6_cellsBeside_7 rfl ?_
  refine ex_ldc2_w (pc := 8) dX6_cellsBeside_8 cn_X6_344 ?_
  refine ex_land (pc := 11) dX6_cellsBeside_11 ?_
  refine ex_iconst (pc := 12) (v := (nI 1)) dX6_cellsBeside_12 (by decide) ?_
  refine ex_lushr (pc := 13) dX6_cellsBeside_13 ?_
  refine ex_lor (pc := 14) dX6_cellsBeside_14 ?_
  refine sx_lstore_n (pc := 15) dX6_cellsBeside_15 rfl (by decide) ?_
  show Ex _ _ _ _ _ _ [_, _, _, _] _ _ _
  refine ex_lload_n (pc := 16) dX6_cellsBeside_16 rfl ?_
  refine ex_lload_n (pc := 17) dX6_cellsBeside_17 rfl ?_
  refine ex_bipush (pc := 18) (v := (nI 8)) dX6_cellsBeside_18 (by decide) ?_
  refine ex_lshl (pc := 20) dX6_cellsBeside_20 ?_
  refine ex_lor (pc := 21) dX6_cellsBeside_21 ?_
  refine ex_lload_n (pc := 22) dX6_cellsBeside_22 rfl ?_
  refine ex_bipush (pc := 23) (v := (nI 8)) dX6_cellsBeside_23 (by decide) ?_
  refine ex_lushr (pc := 25) dX6_cellsBeside_25 ?_
  refine ex_lor (pc := 26) dX6_cellsBeside_26 ?_
  refine ex_ldc2_w (pc := 27) dX6_cellsBeside_27 cn_X6_346 ?_
  refine ex_land (pc := 30) dX6_cellsBeside_30 ?_
  refine ex_lret dX6_cellsBeside_31 rfl ?_
  exact ql_mk ⟨rfl, rfl⟩
set_option maxHeartbeats 4000000 in
set_option maxRecDepth 100000 in
theorem c_M_beside_l {g : Gl} {d ks : Nat} {h : AH} (x : Int64) : ∀ (m k : Nat), k + m = 6 → Ex g mX7_beside d 0 ks 8 [some (.long x), none, some (.long (lfM (k))), none, some (.long (rtM (k))), none, some (.int (nI (k)))] [] h (ql (fun h' r => h' = h ∧ r = bsM x)) := by
  intro m
  induction m with
  | zero =>
    intro k hk
    refine ex_iload (pc := 8) dX7_beside_8 rfl ?_
    refine ex_bipush (pc := 10) (v := (nI 6)) dX7_beside_10 (by decide) ?_
    refine bx_icmp_ge_t (pc := 12) (tgt := 48) dX7_beside_12 (by decide) (by rw [show k = 6 by omega]; exact Int32.le_refl _) ?_
    refine ex_lload_n (pc := 48) dX7_beside_48 rfl ?_
    refine ex_bipush (pc := 49) (v := (nI 8)) dX7_beside_49 (by decide) ?_
    refine ex_lshl (pc := 51) dX7_beside_51 ?_
    refine ex_lload_n (pc := 52) dX7_beside_52 rfl ?_
    refine ex_bipush (pc := 53) (v := (nI 8)) dX7_beside_53 (by decide) ?_
    refine ex_lshr (pc := 55) dX7_beside_55 ?_
    refine ex_lor (pc := 56) dX7_beside_56 ?_
    refine ex_lload_n (pc := 57) dX7_beside_57 rfl ?_
    refine ex_lload (pc := 58) dX7_beside_58 rfl ?_
    refine ex_ldc2_w (pc := 60) dX7_beside_60 cn_X7_146 ?_
    refine ex_lxor (pc := 63) dX7_beside_63 ?_
    refine ex_land (pc := 64) dX7_beside_64 ?_
    refine ex_iconst (pc := 65) (v := (nI 1)) dX7_beside_65 (by decide) ?_
    refine ex_lshl (pc := 66) dX7_beside_66 ?_
    refine ex_lor (pc := 67) dX7_beside_67 ?_
    refine ex_lload_n (pc := 68) dX7_beside_68 rfl ?_
    refine ex_lload_n (pc := 69) dX7_beside_69 rfl ?_
    refine ex_ldc2_w (pc := 70) dX7_beside_70 cn_X7_146 ?_
    refine ex_lxor (pc := 73) dX7_beside_73 ?_
    refine ex_land (pc := 74) dX7_beside_74 ?_
    refine ex_iconst (pc := 75) (v := (nI 1)) dX7_beside_75 (by decide) ?_
    refine ex_lshr (pc := 76) dX7_beside_76 ?_
    refine ex_lor (pc := 77) dX7_beside_77 ?_
    refine ex_lret dX7_beside_78 rfl ?_
    obtain rfl : k = 6 := by omega
    exact ql_mk ⟨rfl, rfl⟩
  | succ m ih =>
    intro k hk
    refine ex_iload (pc := 8) dX7_beside_8 rfl ?_
    refine ex_bipush (pc := 10) (v := (nI 6)) dX7_beside_10 (by decide) ?_
    refine bx_icmp_ge_f (pc := 12) (tgt := 48) dX7_beside_12 (by decide) (nI_ge (by omega) (by omega)) ?_
    refine ex_lload_n (pc := 15) dX7_beside_15 rfl ?_
    refine ex_lconst (pc := 16) (v := 1) dX7_beside_16 (by decide) ?_
    refine ex_bipush (pc := 17) (v := (nI 8)) dX7_beside_17 (by decide) ?_
    refine ex_iload (pc := 19) dX7_beside_19 rfl ?_
    refine ex_imul (pc := 21) dX7_beside_21 ?_
    rw [nI_mul]
    refine ex_lshl (pc := 22) dX7_beside_22 ?_
    refine ex_lor (pc := 23) dX7_beside_23 ?_
    refine sx_lstore_n (pc := 24) dX7_beside_24 rfl (by decide) ?_
    show Ex _ _ _ _ _ _ [_, _, _, _, _, _, _] _ _ _
    refine ex_lload (pc := 25) dX7_beside_25 rfl ?_
    refine ex_lconst (pc := 27) (v := 1) dX7_beside_27 (by decide) ?_
    refine ex_bipush (pc := 28) (v := (nI 8)) dX7_beside_28 (by decide) ?_
    refine ex_iload (pc := 30) dX7_beside_30 rfl ?_
    refine ex_imul (pc := 32) dX7_beside_32 ?_
    refine ex_bipush (pc := 33) (v := (nI 8)) dX7_beside_33 (by decide) ?_
    refine ex_iadd (pc := 35) dX7_beside_35 ?_
    refine ex_iconst (pc := 36) (v := (nI 1)) dX7_beside_36 (by decide) ?_
    refine ex_isub (pc := 37) dX7_beside_37 ?_
    rw [nI_mul, nI_add, nI_sub (by omega), show 8 * k + 8 - 1 = 8 * k + 7 by omega]
    refine ex_lshl (pc := 38) dX7_beside_38 ?_
    refine ex_lor (pc := 39) dX7_beside_39 ?_
    refine sx_lstore (pc := 40) dX7_beside_40 rfl (by decide) ?_
    show Ex _ _ _ _ _ _ [_, _, _, _, _, _, _] _ _ _
    first | refine sx_inc (pc := 42) dX7_beside_42 rfl rfl (by decide) ?_ | refine sx_iinc (pc := 42) dX7_beside_42 rfl rfl (by decide) ?_
    show Ex _ _ _ _ _ _ [_, _, _, _, _, _, _] _ _ _
    refine ex_goto (pc := 45) (tgt := 8) dX7_beside_45 (by decide) ?_
    exact ih (k + 1) (by omega)
set_option maxHeartbeats 4000000 in
set_option maxRecDepth 100000 in
theorem c_M_beside {g : Gl} {d ks : Nat} {h : AH} (x : Int64) : Ex g mX7_beside d 0 ks 0 [some (.long x), none, none, none, none, none, none] [] h (ql (fun h' r => h' = h ∧ r = bsM x)) := by
  refine ex_lconst (pc := 0) (v := 0) dX7_beside_0 (by decide) ?_
  refine sx_lstore_n (pc := 1) dX7_beside_1 rfl (by decide) ?_
  show Ex _ _ _ _ _ _ [_, _, _, _, _, _, _] _ _ _
  refine ex_lconst (pc := 2) (v := 0) dX7_beside_2 (by decide) ?_
  refine sx_lstore (pc := 3) dX7_beside_3 rfl (by decide) ?_
  show Ex _ _ _ _ _ _ [_, _, _, _, _, _, _] _ _ _
  refine ex_iconst (pc := 5) (v := (nI 0)) dX7_beside_5 (by decide) ?_
  refine sx_istore (pc := 6) dX7_beside_6 rfl (by decide) ?_
  show Ex _ _ _ _ _ _ [_, _, _, _, _, _, _] _ _ _
  exact c_M_beside_l x 6 0 (by omega)
set_option maxHeartbeats 4000000 in
set_option maxRecDepth 100000 in
theorem c_W_sneak_l {g : Gl} {d ks : Nat} {h : AH} (hd : 1 ≤ d) {a : Int32} {t : Nat} (ht : t < 48) {mm xx : Int64} (hm : b48s mm) (hx : b48s xx) : ∀ (m k : Nat), k + m = 48 → Ex g mX6_sneak d 0 ks 40 [some (.ref (g.1 + 0)), some (.int a), some (.int (nI t)), some (.long mm), none, some (.long (xsN mm xx (k))), none, some (.int (nI (k)))] [] h (qi (fun h' r => h' = h ∧ r = oN (-1000000005) (fstB (fun k => bL (xsN mm xx k) t) m k))) := by
  intro m
  induction m with
  | zero =>
    intro k hk
    refine ex_iload (pc := 40) dX6_sneak_40 rfl ?_
    refine ex_bipush (pc := 42) (v := (nI 48)) dX6_sneak_42 (by decide) ?_
    refine bx_icmp_ge_t (pc := 44) (tgt := 80) dX6_sneak_44 (by decide) (by rw [show k = 48 by omega]; exact Int32.le_refl _) ?_
    refine ex_ldc (pc := 80) dX6_sneak_80 cn_X6_142 ?_
    refine ex_ret dX6_sneak_82 rfl ?_
    exact qi_mk ⟨rfl, rfl⟩
  | succ m ih =>
    intro k hk
    refine ex_iload (pc := 40) dX6_sneak_40 rfl ?_
    refine ex_bipush (pc := 42) (v := (nI 48)) dX6_sneak_42 (by decide) ?_
    refine bx_icmp_ge_f (pc := 44) (tgt := 80) dX6_sneak_44 (by decide) (nI_ge (by omega) (by omega)) ?_
    refine ex_lload (pc := 47) dX6_sneak_47 rfl ?_
    refine ex_iload_n (pc := 49) dX6_sneak_49 rfl ?_
    refine cx_SL1l (pc := 50) dX6_sneak_50 lk_X6_153 rfl (Nat.le_of_ble_eq_true rfl) (Nat.le_of_ble_eq_true rfl) (by omega) (c_bit _) (fun h_50 x_50 q_50 => ?_)
    obtain ⟨e_50, f_50⟩ := q_50
    rw [e_50, f_50]
    refine ex_land (pc := 53) dX6_sneak_53 ?_
    refine ex_lconst (pc := 54) (v := 0) dX6_sneak_54 (by decide) ?_
    refine ex_lcmp (pc := 55) dX6_sneak_55 ?_
    refine ex_if_eq (pc := 56) (tgt := 62) dX6_sneak_56 (by decide) (fun c_56 => ?_) (fun c_56 => ?_)
    · skip
      refine ex_lload (pc := 62) dX6_sneak_62 rfl ?_
      refine ex_lload (pc := 64) dX6_sneak_64 rfl ?_
      refine cx_SL1l (pc := 66) dX6_sneak_66 lk_X6_205 rfl (Nat.le_of_ble_eq_true rfl) (Nat.le_of_ble_eq_true rfl) (by omega) (c_cellsBeside _) (fun h_66 x_66 q_66 => ?_)
      obtain ⟨e_66, f_66⟩ := q_66
      rw [e_66, f_66]
      refine ex_lload_n (pc := 69) dX6_sneak_69 rfl ?_
      refine ex_land (pc := 70) dX6_sneak_70 ?_
      refine ex_lor (pc := 71) dX6_sneak_71 ?_
      refine sx_lstore (pc := 72) dX6_sneak_72 rfl (by decide) ?_
      show Ex _ _ _ _ _ _ [_, _, _, _, _, _, _, _] _ _ _
      first | refine sx_inc (pc := 74) dX6_sneak_74 rfl rfl (by decide) ?_ | refine sx_iinc (pc := 74) dX6_sneak_74 rfl rfl (by decide) ?_
      show Ex _ _ _ _ _ _ [_, _, _, _, _, _, _, _] _ _ _
      refine ex_goto (pc := 77) (tgt := 40) dX6_sneak_77 (by decide) ?_
      rw [lg_eq0, and_bit (by omega)] at c_56
      rw [cs_snx (xs_48 hx k) hm]
      refine (ih (k + 1) (by omega)).mono (fun h' r a => ?_)
      obtain ⟨y, e, a1, a2⟩ := a
      refine ⟨y, e, a1, ?_⟩
      rw [a2]
      have e2 : fstB (fun k => bL (xsN mm xx k) t) (m + 1) k = fstB (fun k => bL (xsN mm xx k) t) m (k + 1) := by rw [fstB, if_neg (by rw [c_56]; decide)]
      rw [e2]
    · skip
      refine ex_iload (pc := 59) dX6_sneak_59 rfl ?_
      refine ex_ret dX6_sneak_61 rfl ?_
      refine qi_mk ⟨rfl, ?_⟩
      rw [lg_eq0, and_bit (by omega)] at c_56
      rw [fstB, if_pos (by simpa using c_56)]
      rfl
set_option maxHeartbeats 4000000 in
set_option maxRecDepth 100000 in
theorem c_W_sneak {g : Gl} {d ks : Nat} {h : AH} {ik wc : Int32} {s : Nat → Int32} {n nt : Nat} (hW : h[0]? = some (wtC g ik wc)) (hC : CR g h 1 s n nt) (hd : 6 ≤ d) (a t : Int32) : Ex g mX6_sneak d 0 ks 0 [some (.ref (g.1 + 0)), some (.int a), some (.int t), none, none, none, none, none] [] h (qi (fun h' r => Sq g h h' ∧ r = (aSneak s n nt a t))) := by
  have hR := hC.1
  have hP := hC.2.1
  have hn8 := hP.2.1
  have hN := hR.2.1
  obtain ⟨fp, hfp, hfp2⟩ := hR.2.2.2.1
  refine ex_iload_n (pc := 0) dX6_sneak_0 rfl ?_
  refine ex_bipush (pc := 1) (v := (nI 48)) dX6_sneak_1 (by decide) ?_
  refine cx_SL2i (pc := 3) dX6_sneak_3 lk_X6_69 rfl (Nat.le_of_ble_eq_true rfl) (Nat.le_of_ble_eq_true rfl) (by omega) (c_ib _ _) (fun h_3 x_3 q_3 => ?_)
  obtain ⟨e_3, f_3⟩ := q_3
  rw [e_3, f_3]
  refine ex_if_eq (pc := 6) (tgt := 18) dX6_sneak_6 (by decide) (fun c_6 => ?_) (fun c_6 => ?_)
  · skip
    have b_6 := bF c_6
    refine ex_ldc (pc := 18) dX6_sneak_18 cn_X6_73 ?_
    refine ex_ret dX6_sneak_20 rfl ?_
    refine qi_mk ⟨Sq.rf, ?_⟩
    simp [aSneak, b_6]
  · skip
    have b_6 := bT c_6
    refine ex_iload_n (pc := 9) dX6_sneak_9 rfl ?_
    refine ex_bipush (pc := 10) (v := (nI 48)) dX6_sneak_10 (by decide) ?_
    refine cx_SL2i (pc := 12) dX6_sneak_12 lk_X6_69 rfl (Nat.le_of_ble_eq_true rfl) (Nat.le_of_ble_eq_true rfl) (by omega) (c_ib _ _) (fun h_12 x_12 q_12 => ?_)
    obtain ⟨e_12, f_12⟩ := q_12
    rw [e_12, f_12]
    refine ex_if_ne (pc := 15) (tgt := 21) dX6_sneak_15 (by decide) (fun c_15 => ?_) (fun c_15 => ?_)
    · skip
      have b_15 := bT c_15
      obtain ⟨a0, ha0, rfl⟩ := bw_ex b_6
      have i_a : ixI (nI a0) = a0 := iK (by omega)
      obtain ⟨t0, ht0, rfl⟩ := bw_ex b_15
      have i_t : ixI (nI t0) = t0 := iK (by omega)
      refine ex_aload_n (pc := 21) dX6_sneak_21 rfl ?_
      refine ex_get (pc := 22) dX6_sneak_22 fl_X6_10 hW rfl ?_
      refine cx_VL0l (pc := 25) dX6_sneak_25 lk_X6_186 hR.1 rfl (Nat.le_of_ble_eq_true rfl) (Nat.le_of_ble_eq_true rfl) (by omega) (c_R_blindCells hC (by omega)) (fun h_25 x_25 q_25 => ?_)
      obtain ⟨hs_25, f_25⟩ := q_25
      rw [f_25]
      refine sx_lstore_n (pc := 28) dX6_sneak_28 rfl (by decide) ?_
      show Ex _ _ _ _ _ _ [_, _, _, _, _, _, _, _] _ _ _
      refine ex_iload_n (pc := 29) dX6_sneak_29 rfl ?_
      refine cx_SL1l (pc := 30) dX6_sneak_30 lk_X6_153 rfl (Nat.le_of_ble_eq_true rfl) (Nat.le_of_ble_eq_true rfl) (by omega) (c_bit _) (fun h_30 x_30 q_30 => ?_)
      obtain ⟨e_30, f_30⟩ := q_30
      rw [e_30, f_30]
      refine ex_lload_n (pc := 33) dX6_sneak_33 rfl ?_
      refine ex_land (pc := 34) dX6_sneak_34 ?_
      refine sx_lstore (pc := 35) dX6_sneak_35 rfl (by decide) ?_
      show Ex _ _ _ _ _ _ [_, _, _, _, _, _, _, _] _ _ _
      refine ex_iconst (pc := 37) (v := (nI 0)) dX6_sneak_37 (by decide) ?_
      refine sx_istore (pc := 38) dX6_sneak_38 rfl (by decide) ?_
      show Ex _ _ _ _ _ _ [_, _, _, _, _, _, _, _] _ _ _
      rw [and_cm]
      refine (c_W_sneak_l (by omega) ht0 (setL_48s _) (and_48s (setL_48s _)) 48 0 (by omega)).mono (fun h' r q => ?_)
      obtain ⟨y, e, a1, a2⟩ := q
      rw [a1]
      exact ⟨y, e, hs_25, by rw [a2]; simp only [aSneak, b_6, b_15, i_a, i_t, Bool.and_self, Bool.and_true, Bool.true_and, Bool.and_false, Bool.false_and, Bool.or_true, Bool.true_or, Bool.or_false, Bool.false_or, Bool.not_true, Bool.not_false, Bool.false_eq_true, ↓reduceIte]; rfl⟩
    · skip
      have b_15 := bF c_15
      refine ex_ldc (pc := 18) dX6_sneak_18 cn_X6_73 ?_
      refine ex_ret dX6_sneak_20 rfl ?_
      refine qi_mk ⟨Sq.rf, ?_⟩
      simp [aSneak, b_6, b_15]
set_option maxHeartbeats 4000000 in
set_option maxRecDepth 100000 in
theorem c_M_sneak_x {g : Gl} {d ks : Nat} {h : AH} {a : Int32} {t : Nat} (ht : t < 48) {mm xx : Int64} {k : Nat} (hz : bL (xsN mm xx (k)) t = false) (hall : ∀ j, j < 48 → bL (xsN mm xx j) t = false) (l : Option Value) : Ex g mX7_sneak d 0 ks 46 [some (.ref (g.1 + 75)), some (.int a), some (.int (nI t)), some (.long mm), none, some (.long (xsN mm xx (k))), none, some (.int (nI (k))), some (.int (nI 0)), l, none] [] h (qi (fun h' r => h' = h ∧ r = oN (-1000000005) (fstB (fun k => bL (xsN mm xx k) t) 48 0))) := by
  refine ex_iload (pc := 46) dX7_sneak_46 rfl ?_
  refine bx_if_eq_t (pc := 48) (tgt := 99) dX7_sneak_48 (by decide) (rfl) ?_
  refine ex_lload (pc := 99) dX7_sneak_99 rfl ?_
  refine ex_iload_n (pc := 101) dX7_sneak_101 rfl ?_
  refine ex_lshr (pc := 102) dX7_sneak_102 ?_
  refine ex_lconst (pc := 103) (v := 1) dX7_sneak_103 (by decide) ?_
  refine ex_land (pc := 104) dX7_sneak_104 ?_
  refine ex_lconst (pc := 105) (v := 1) dX7_sneak_105 (by decide) ?_
  refine ex_lcmp (pc := 106) dX7_sneak_106 ?_
  refine ex_if_ne (pc := 107) (tgt := 115) dX7_sneak_107 (by decide) (fun c_107 => ?_) (fun c_107 => ?_)
  · skip
    refine ex_ldc (pc := 115) dX7_sneak_115 cn_X7_68 ?_
    refine ex_ret dX7_sneak_117 rfl ?_
    refine qi_mk ⟨rfl, ?_⟩
    rw [fst_none 48 0 (fun j _ hj => hall j (by omega))]
    rfl
  · skip
    refine ex_iload (pc := 110) dX7_sneak_110 rfl ?_
    refine ex_goto (pc := 112) (tgt := 117) dX7_sneak_112 (by decide) ?_
    refine ex_ret dX7_sneak_117 rfl ?_
    rw [lg_eq0] at c_107
    have z := hz
    rw [← shrand (by omega), c_107] at z
    exact absurd z (by decide)
set_option maxHeartbeats 4000000 in
set_option maxRecDepth 100000 in
theorem c_M_sneak_l {g : Gl} {d ks : Nat} {h : AH} (hd : 1 ≤ d) {a : Int32} {t : Nat} (ht : t < 48) {mm xx : Int64} (hm : b48s mm) (hx : b48s xx) : ∀ (m k : Nat) (l : Option Value), (∀ j, j < k → bL (xsN mm xx j) t = false) → k + 1 ≤ cntL (xsN mm xx k) → k + m = 48 → Ex g mX7_sneak d 0 ks 46 [some (.ref (g.1 + 75)), some (.int a), some (.int (nI t)), some (.long mm), none, some (.long (xsN mm xx (k))), none, some (.int (nI (k))), some (.int (nI 1)), l, none] [] h (qi (fun h' r => h' = h ∧ r = oN (-1000000005) (fstB (fun k => bL (xsN mm xx k) t) 48 0))) := by
  intro m
  induction m with
  | zero =>
    intro k l hno hc hk
    have := cnt_48 (xs_48 hx k (m := mm))
    omega
  | succ m ih =>
    intro k l hno hc hk
    refine ex_iload (pc := 46) dX7_sneak_46 rfl ?_
    refine bx_if_eq_f (pc := 48) (tgt := 99) dX7_sneak_48 (by decide) (by decide) ?_
    refine ex_lload (pc := 51) dX7_sneak_51 rfl ?_
    refine ex_iload_n (pc := 53) dX7_sneak_53 rfl ?_
    refine ex_lshr (pc := 54) dX7_sneak_54 ?_
    refine ex_lconst (pc := 55) (v := 1) dX7_sneak_55 (by decide) ?_
    refine ex_land (pc := 56) dX7_sneak_56 ?_
    refine ex_lconst (pc := 57) (v := 0) dX7_sneak_57 (by decide) ?_
    refine ex_lcmp (pc := 58) dX7_sneak_58 ?_
    refine ex_if_ne (pc := 59) (tgt := 99) dX7_sneak_59 (by decide) (fun c_59 => ?_) (fun c_59 => ?_)
    · skip
      refine ex_lload (pc := 99) dX7_sneak_99 rfl ?_
      refine ex_iload_n (pc := 101) dX7_sneak_101 rfl ?_
      refine ex_lshr (pc := 102) dX7_sneak_102 ?_
      refine ex_lconst (pc := 103) (v := 1) dX7_sneak_103 (by decide) ?_
      refine ex_land (pc := 104) dX7_sneak_104 ?_
      refine ex_lconst (pc := 105) (v := 1) dX7_sneak_105 (by decide) ?_
      refine ex_lcmp (pc := 106) dX7_sneak_106 ?_
      refine ex_if_ne (pc := 107) (tgt := 115) dX7_sneak_107 (by decide) (fun c_107 => ?_) (fun c_107 => ?_)
      · skip
        refine ex_ldc (pc := 115) dX7_sneak_115 cn_X7_68 ?_
        refine ex_ret dX7_sneak_117 rfl ?_
        rw [lg_eq0, shrand (by omega)] at c_59
        have hb : bL (xsN mm xx k) t = true := by simpa using c_59
        rw [lg_eq0] at c_107
        refine absurd ?_ c_107
        rw [and1_1, bL_shr _ (by omega) (by omega), if_pos (by omega), Nat.add_zero]; exact hb
      · skip
        refine ex_iload (pc := 110) dX7_sneak_110 rfl ?_
        refine ex_goto (pc := 112) (tgt := 117) dX7_sneak_112 (by decide) ?_
        refine ex_ret dX7_sneak_117 rfl ?_
        rw [lg_eq0, shrand (by omega)] at c_59
        have hb : bL (xsN mm xx k) t = true := by simpa using c_59
        refine qi_mk ⟨rfl, ?_⟩
        rw [fst_some 48 0 k (by omega) (by have := cnt_48 (xs_48 hx k (m := mm)); omega) (fun j _ hj => hno j hj) hb]
        rfl
    · skip
      refine ex_lload (pc := 62) dX7_sneak_62 rfl ?_
      refine ex_lload (pc := 64) dX7_sneak_64 rfl ?_
      refine cx_SL1l (pc := 66) dX7_sneak_66 lk_X7_226 rfl (Nat.le_of_ble_eq_true rfl) (Nat.le_of_ble_eq_true rfl) (by omega) (c_M_beside _) (fun h_66 x_66 q_66 => ?_)
      obtain ⟨e_66, f_66⟩ := q_66
      rw [e_66, f_66]
      refine ex_lload_n (pc := 69) dX7_sneak_69 rfl ?_
      refine ex_land (pc := 70) dX7_sneak_70 ?_
      refine ex_lor (pc := 71) dX7_sneak_71 ?_
      refine sx_lstore (pc := 72) dX7_sneak_72 rfl (by decide) ?_
      show Ex _ _ _ _ _ _ [_, _, _, _, _, _, _, _, _, _, _] _ _ _
      refine ex_lload (pc := 74) dX7_sneak_74 rfl ?_
      refine ex_lload (pc := 76) dX7_sneak_76 rfl ?_
      refine ex_lcmp (pc := 78) dX7_sneak_78 ?_
      refine ex_if_eq (pc := 79) (tgt := 86) dX7_sneak_79 (by decide) (fun c_79 => ?_) (fun c_79 => ?_)
      · skip
        refine ex_iconst (pc := 86) (v := (nI 0)) dX7_sneak_86 (by decide) ?_
        refine sx_istore (pc := 87) dX7_sneak_87 rfl (by decide) ?_
        show Ex _ _ _ _ _ _ [_, _, _, _, _, _, _, _, _, _, _] _ _ _
        refine ex_lload (pc := 89) dX7_sneak_89 rfl ?_
        refine sx_lstore (pc := 91) dX7_sneak_91 rfl (by decide) ?_
        show Ex _ _ _ _ _ _ [_, _, _, _, _, _, _, _, _, _, _] _ _ _
        first | refine sx_inc (pc := 93) dX7_sneak_93 rfl rfl (by decide) ?_ | refine sx_iinc (pc := 93) dX7_sneak_93 rfl rfl (by decide) ?_
        show Ex _ _ _ _ _ _ [_, _, _, _, _, _, _, _, _, _, _] _ _ _
        refine ex_goto (pc := 96) (tgt := 46) dX7_sneak_96 (by decide) ?_
        rw [lg_eq0, shrand (by omega)] at c_59
        rw [lg_eq0, bs_snx (xs_48 hx k) hm] at c_79
        rw [bs_snx (xs_48 hx k) hm]
        have hno2 : ∀ j, j < k + 1 → bL (xsN mm xx j) t = false := fun j hj => by
          by_cases e : j = k
          · rw [e]; exact c_59
          · exact hno j (by omega)
        have fx := xs_fix (m := mm) (x := xx) (k := k) c_79
        refine c_M_sneak_x (k := k + 1) ht ?_ (fun j hj => ?_) _
        · rw [fx (k + 1) (by omega)]; exact c_59
        · by_cases e : j < k + 1
          · exact hno2 j e
          · rw [fx j (by omega)]; exact c_59
      · skip
        refine ex_iconst (pc := 82) (v := (nI 1)) dX7_sneak_82 (by decide) ?_
        refine ex_goto (pc := 83) (tgt := 87) dX7_sneak_83 (by decide) ?_
        refine sx_istore (pc := 87) dX7_sneak_87 rfl (by decide) ?_
        show Ex _ _ _ _ _ _ [_, _, _, _, _, _, _, _, _, _, _] _ _ _
        refine ex_lload (pc := 89) dX7_sneak_89 rfl ?_
        refine sx_lstore (pc := 91) dX7_sneak_91 rfl (by decide) ?_
        show Ex _ _ _ _ _ _ [_, _, _, _, _, _, _, _, _, _, _] _ _ _
        first | refine sx_inc (pc := 93) dX7_sneak_93 rfl rfl (by decide) ?_ | refine sx_iinc (pc := 93) dX7_sneak_93 rfl rfl (by decide) ?_
        show Ex _ _ _ _ _ _ [_, _, _, _, _, _, _, _, _, _, _] _ _ _
        refine ex_goto (pc := 96) (tgt := 46) dX7_sneak_96 (by decide) ?_
        rw [lg_eq0, shrand (by omega)] at c_59
        rw [lg_eq0, bs_snx (xs_48 hx k) hm] at c_79
        rw [bs_snx (xs_48 hx k) hm]
        have hno2 : ∀ j, j < k + 1 → bL (xsN mm xx j) t = false := fun j hj => by
          by_cases e : j = k
          · rw [e]; exact c_59
          · exact hno j (by omega)
        have := snx_cnt (m := mm) (xs_48 hx k) c_79
        exact ih (k + 1) _ hno2 (by show k + 1 + 1 ≤ cntL (snx mm (xsN mm xx k)); omega) (by omega)
set_option maxHeartbeats 4000000 in
set_option maxRecDepth 100000 in
theorem c_M_sneak {g : Gl} {d ks : Nat} {h : AH} {z s : Nat → Int32} {n nt : Nat} (hR : MR g h z s n nt) (hd : 8 ≤ d) (a t : Int32) : Ex g mX7_sneak d 0 ks 0 [some (.ref (g.1 + 75)), some (.int a), some (.int t), none, none, none, none, none, none, none, none] [] h (qi (fun h' r => Sq g h h' ∧ r = (aSneak s n nt a t))) := by
  have hM := hR.1
  have hP := hR.2.1
  have hn8 := hP.2.1
  have hN := hP.1
  refine ex_iload_n (pc := 0) dX7_sneak_0 rfl ?_
  refine cx_SL1i (pc := 1) dX7_sneak_1 lk_X7_156 rfl (Nat.le_of_ble_eq_true rfl) (Nat.le_of_ble_eq_true rfl) (by omega) (c_M_cel (by omega) _) (fun h_1 x_1 q_1 => ?_)
  obtain ⟨e_1, f_1⟩ := q_1
  rw [e_1, f_1]
  refine ex_if_eq (pc := 4) (tgt := 14) dX7_sneak_4 (by decide) (fun c_4 => ?_) (fun c_4 => ?_)
  · skip
    have b_4 := bF c_4
    refine ex_ldc (pc := 14) dX7_sneak_14 cn_X7_161 ?_
    refine ex_ret dX7_sneak_16 rfl ?_
    refine qi_mk ⟨Sq.rf, ?_⟩
    simp [aSneak, b_4]
  · skip
    have b_4 := bT c_4
    refine ex_iload_n (pc := 7) dX7_sneak_7 rfl ?_
    refine cx_SL1i (pc := 8) dX7_sneak_8 lk_X7_156 rfl (Nat.le_of_ble_eq_true rfl) (Nat.le_of_ble_eq_true rfl) (by omega) (c_M_cel (by omega) _) (fun h_8 x_8 q_8 => ?_)
    obtain ⟨e_8, f_8⟩ := q_8
    rw [e_8, f_8]
    refine ex_if_ne (pc := 11) (tgt := 17) dX7_sneak_11 (by decide) (fun c_11 => ?_) (fun c_11 => ?_)
    · skip
      have b_11 := bT c_11
      obtain ⟨a0, ha0, rfl⟩ := bw_ex b_4
      have i_a : ixI (nI a0) = a0 := iK (by omega)
      obtain ⟨t0, ht0, rfl⟩ := bw_ex b_11
      have i_t : ixI (nI t0) = t0 := iK (by omega)
      refine ex_aload_n (pc := 17) dX7_sneak_17 rfl ?_
      refine cx_VL0l (pc := 18) dX7_sneak_18 lk_X7_213 hM.1 rfl (Nat.le_of_ble_eq_true rfl) (Nat.le_of_ble_eq_true rfl) (by omega) (c_M_blind hR (by omega)) (fun h_18 x_18 q_18 => ?_)
      obtain ⟨hs_18, f_18⟩ := q_18
      rw [f_18]
      refine sx_lstore_n (pc := 21) dX7_sneak_21 rfl (by decide) ?_
      show Ex _ _ _ _ _ _ [_, _, _, _, _, _, _, _, _, _, _] _ _ _
      refine ex_lload_n (pc := 22) dX7_sneak_22 rfl ?_
      refine ex_lconst (pc := 23) (v := 1) dX7_sneak_23 (by decide) ?_
      refine ex_iload_n (pc := 24) dX7_sneak_24 rfl ?_
      refine ex_lshl (pc := 25) dX7_sneak_25 ?_
      refine ex_land (pc := 26) dX7_sneak_26 ?_
      refine sx_lstore (pc := 27) dX7_sneak_27 rfl (by decide) ?_
      show Ex _ _ _ _ _ _ [_, _, _, _, _, _, _, _, _, _, _] _ _ _
      refine ex_iconst (pc := 29) (v := (nI 0)) dX7_sneak_29 (by decide) ?_
      refine sx_istore (pc := 30) dX7_sneak_30 rfl (by decide) ?_
      show Ex _ _ _ _ _ _ [_, _, _, _, _, _, _, _, _, _, _] _ _ _
      refine ex_lload (pc := 32) dX7_sneak_32 rfl ?_
      refine ex_lconst (pc := 34) (v := 0) dX7_sneak_34 (by decide) ?_
      refine ex_lcmp (pc := 35) dX7_sneak_35 ?_
      refine ex_if_eq (pc := 36) (tgt := 43) dX7_sneak_36 (by decide) (fun c_36 => ?_) (fun c_36 => ?_)
      · skip
        refine ex_iconst (pc := 43) (v := (nI 0)) dX7_sneak_43 (by decide) ?_
        refine sx_istore (pc := 44) dX7_sneak_44 rfl (by decide) ?_
        show Ex _ _ _ _ _ _ [_, _, _, _, _, _, _, _, _, _, _] _ _ _
        rw [lg_eq0] at c_36
        have hz0 : ∀ j, bL (xsN (setL (bld s nt n) 48) (setL (bld s nt n) 48 &&& shl64 1 (nI a0)) j) t0 = false := fun j => by
          have fx := xs_fix (m := setL (bld s nt n) 48) (x := setL (bld s nt n) 48 &&& shl64 1 (nI a0)) (k := 0) (by
            show snx _ (setL (bld s nt n) 48 &&& shl64 1 (nI a0)) = setL (bld s nt n) 48 &&& shl64 1 (nI a0)
            rw [c_36]
            apply bL_ext
            intro i hi
            unfold snx nbB
            rw [b48 hi]
            simp [bL_0]) j (by omega)
          rw [fx]
          show bL (setL (bld s nt n) 48 &&& shl64 1 (nI a0)) t0 = false
          rw [c_36, bL_0]
        refine (c_M_sneak_x (k := 0) ht0 (hz0 0) (fun j _ => hz0 j) _).mono (fun h' r q => ?_)
        obtain ⟨y, e, a1, a2⟩ := q
        rw [a1]
        exact ⟨y, e, hs_18, by rw [a2]; simp only [aSneak, b_4, b_11, i_a, i_t, Bool.and_self, Bool.and_true, Bool.true_and, Bool.and_false, Bool.false_and, Bool.or_true, Bool.true_or, Bool.or_false, Bool.false_or, Bool.not_true, Bool.not_false, Bool.false_eq_true, ↓reduceIte]; rfl⟩
      · skip
        refine ex_iconst (pc := 39) (v := (nI 1)) dX7_sneak_39 (by decide) ?_
        refine ex_goto (pc := 40) (tgt := 44) dX7_sneak_40 (by decide) ?_
        refine sx_istore (pc := 44) dX7_sneak_44 rfl (by decide) ?_
        show Ex _ _ _ _ _ _ [_, _, _, _, _, _, _, _, _, _, _] _ _ _
        rw [lg_eq0] at c_36
        refine (c_M_sneak_l (by omega) ht0 (setL_48s _) (and_48s (setL_48s _)) 48 0 _ (fun j hj => absurd hj (by omega)) (cnt_pos c_36) (by omega)).mono (fun h' r q => ?_)
        obtain ⟨y, e, a1, a2⟩ := q
        rw [a1]
        exact ⟨y, e, hs_18, by rw [a2]; simp only [aSneak, b_4, b_11, i_a, i_t, Bool.and_self, Bool.and_true, Bool.true_and, Bool.and_false, Bool.false_and, Bool.or_true, Bool.true_or, Bool.or_false, Bool.false_or, Bool.not_true, Bool.not_false, Bool.false_eq_true, ↓reduceIte]; rfl⟩
    · skip
      have b_11 := bF c_11
      refine ex_ldc (pc := 14) dX7_sneak_14 cn_X7_161 ?_
      refine ex_ret dX7_sneak_16 rfl ?_
      refine qi_mk ⟨Sq.rf, ?_⟩
      simp [aSneak, b_4, b_11]

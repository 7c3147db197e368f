/-! sets of cells as bits of a long -/
def bL (x : Int64) (i : Nat) : Bool := x.toBitVec.getLsbD i
theorem bL_ext {x y : Int64} (h : ∀ i, i < 64 → bL x i = bL y i) : x = y := by
  apply Int64.toBitVec_inj.mp
  apply BitVec.eq_of_getLsbD_eq
  intro i hi
  exact h i hi
theorem bL_hi {x : Int64} {i : Nat} (h : 64 ≤ i) : bL x i = false := BitVec.getLsbD_of_ge _ _ h
theorem bL_or (x y : Int64) (i : Nat) : bL (x ||| y) i = (bL x i || bL y i) := by
  unfold bL; rw [Int64.toBitVec_or, BitVec.getLsbD_or]
theorem bL_and (x y : Int64) (i : Nat) : bL (x &&& y) i = (bL x i && bL y i) := by
  unfold bL; rw [Int64.toBitVec_and, BitVec.getLsbD_and]
theorem bL_xor (x y : Int64) (i : Nat) : bL (x ^^^ y) i = (bL x i ^^ bL y i) := by
  unfold bL; rw [Int64.toBitVec_xor, BitVec.getLsbD_xor]
theorem bL_m1 {i : Nat} (h : i < 64) : bL (-1) i = true := by
  have e : ∀ i, i < 64 → bL (-1) i = true := by decide +kernel
  exact e i h
theorem bL_0 (i : Nat) : bL 0 i = false := by
  unfold bL
  have e : (0 : Int64).toBitVec = 0#64 := by decide
  rw [e]; exact BitVec.getLsbD_zero
theorem bL_1 (i : Nat) : bL 1 i = decide (i = 0) := by
  by_cases h : i < 64
  · have e : ∀ i, i < 64 → bL 1 i = decide (i = 0) := by decide +kernel
    exact e i h
  · rw [bL_hi (by omega)]
    have : ¬ i = 0 := by omega
    simp [this]
theorem sh_amt : ∀ k, k < 64 → (((nI k).toInt64 &&& 63).toBitVec.smod 64).toNat = k := by decide +kernel
theorem shu_amt : ∀ k, k < 64 → (((nI k).toInt64.toUInt64 &&& Int64.toUInt64 63).toBitVec % 64).toNat = k := by decide +kernel
theorem shl_bv (x : Int64) {k : Nat} (hk : k < 64) : (shl64 x (nI k)).toBitVec = x.toBitVec <<< k := by
  unfold shl64
  rw [Int64.toBitVec_shiftLeft, BitVec.shiftLeft_eq', sh_amt k hk]
theorem shr_bv (x : Int64) {k : Nat} (hk : k < 64) : (shr64 x (nI k)).toBitVec = x.toBitVec.sshiftRight k := by
  unfold shr64
  rw [Int64.toBitVec_shiftRight, BitVec.sshiftRight_eq', sh_amt k hk]
theorem ush_bv (x : Int64) {k : Nat} (hk : k < 64) : (ush64 x (nI k)).toBitVec = x.toBitVec >>> k := by
  unfold ush64
  have e : ∀ (u : UInt64), u.toInt64.toBitVec = u.toBitVec := fun u => rfl
  rw [e, UInt64.toBitVec_shiftRight, BitVec.ushiftRight_eq', shu_amt k hk]
  rfl
theorem bL_shl (x : Int64) {k : Nat} (hk : k < 64) {i : Nat} (hi : i < 64) : bL (shl64 x (nI k)) i = (decide (k ≤ i) && bL x (i - k)) := by
  unfold bL
  rw [shl_bv x hk, BitVec.getLsbD_shiftLeft]
  by_cases h : i < k
  · have h2 : ¬ k ≤ i := by omega
    simp [h, hi, h2]
  · have h2 : k ≤ i := by omega
    simp [h, hi, h2]
theorem bL_ush (x : Int64) {k : Nat} (hk : k < 64) (i : Nat) : bL (ush64 x (nI k)) i = bL x (k + i) := by
  unfold bL
  rw [ush_bv x hk, BitVec.getLsbD_ushiftRight]
theorem bL_shr (x : Int64) {k : Nat} (hk : k < 64) {i : Nat} (hi : i < 64) : bL (shr64 x (nI k)) i = if k + i < 64 then bL x (k + i) else bL x 63 := by
  unfold bL
  rw [shr_bv x hk, BitVec.getLsbD_sshiftRight]
  have h1 : ¬ 64 ≤ i := by omega
  simp [h1, BitVec.msb_eq_getLsbD_last]
theorem bL_bit {k : Nat} (hk : k < 64) {i : Nat} (hi : i < 64) : bL (shl64 1 (nI k)) i = decide (i = k) := by
  rw [bL_shl 1 hk hi, bL_1]
  by_cases h : k ≤ i
  · by_cases h2 : i = k
    · subst h2; simp
    · have : ¬ i - k = 0 := by omega
      simp [h, h2, this]
  · have : ¬ i = k := by omega
    simp [h, this]
theorem and1_0 (x : Int64) : x &&& 1 = 0 ↔ bL x 0 = false := by
  constructor
  · intro h
    have := congrArg (fun y => bL y 0) h
    simp only [bL_and, bL_1, bL_0] at this
    simpa using this
  · intro h
    apply bL_ext
    intro i _
    rw [bL_and, bL_1, bL_0]
    by_cases hi : i = 0
    · subst hi; simp [h]
    · simp [hi]
theorem ushand {x : Int64} {k : Nat} (hk : k < 64) : ush64 x (nI k) &&& 1 = 0 ↔ bL x k = false := by
  rw [and1_0, bL_ush x hk, Nat.add_zero]
theorem shrand {x : Int64} {k : Nat} (hk : k < 64) : shr64 x (nI k) &&& 1 = 0 ↔ bL x k = false := by
  rw [and1_0, bL_shr x hk (by omega), if_pos (by omega), Nat.add_zero]
theorem and1_1 (x : Int64) : x &&& 1 = 1 ↔ bL x 0 = true := by
  constructor
  · intro h
    have := congrArg (fun y => bL y 0) h
    simp only [bL_and, bL_1] at this
    simpa using this
  · intro h
    apply bL_ext
    intro i _
    rw [bL_and, bL_1]
    by_cases hi : i = 0
    · subst hi; simp [h]
    · simp [hi]
/-- the set of those below n that have P -/
def setL (P : Nat → Bool) : Nat → Int64
  | 0 => 0
  | n + 1 => if P n then setL P n ||| shl64 1 (nI n) else setL P n
theorem bL_setL (P : Nat → Bool) : ∀ (n : Nat), n ≤ 64 → ∀ i, i < 64 → bL (setL P n) i = (decide (i < n) && P i) := by
  intro n
  induction n with
  | zero => intro _ i _; rw [setL, bL_0]; simp
  | succ n ih =>
    intro hn i hi
    rw [setL]
    by_cases hp : P n
    · rw [if_pos hp, bL_or, ih (by omega) i hi, bL_bit (by omega) hi]
      by_cases h1 : i = n
      · subst h1; simp [hp]
      · have : (i < n + 1) ↔ i < n := by omega
        simp [h1, this]
    · rw [if_neg hp, ih (by omega) i hi]
      by_cases h1 : i = n
      · subst h1; simp [hp]
      · have : (i < n + 1) ↔ i < n := by omega
        simp [this]
theorem setL_congr {P R : Nat → Bool} {n : Nat} (h : ∀ i, i < n → P i = R i) : setL P n = setL R n := by
  induction n with
  | zero => rfl
  | succ n ih => rw [setL, setL, ih (fun i hi => h i (by omega)), h n (by omega)]
theorem setL_of {x : Int64} {P : Nat → Bool} {n : Nat} (hn : n ≤ 64) (h : ∀ i, i < 64 → bL x i = (decide (i < n) && P i)) : x = setL P n :=
  bL_ext (fun i hi => by rw [h i hi, bL_setL P n hn i hi])
theorem b48 {P : Nat → Bool} {i : Nat} (hi : i < 64) : bL (setL P 48) i = (decide (i < 48) && P i) := bL_setL P 48 (by omega) i hi

/-! sets of several posts -/
def anyB (f : Nat → Bool) : Nat → Bool
  | 0 => false
  | n + 1 => anyB f n || f n
def uni (P : Nat → Bool) (S : Nat → Int64) : Nat → Int64
  | 0 => 0
  | k + 1 => if P k then uni P S k ||| S k else uni P S k
theorem anyB_congr {f f' : Nat → Bool} : ∀ {n : Nat}, (∀ k, k < n → f k = f' k) → anyB f n = anyB f' n := by
  intro n
  induction n with
  | zero => intro _; rfl
  | succ n ih => intro h; rw [anyB, anyB, ih (fun k hk => h k (by omega)), h n (by omega)]
theorem uni_bits {P : Nat → Bool} {R : Nat → Nat → Bool} : ∀ (n : Nat) (i : Nat), i < 64 → bL (uni P (fun k => setL (R k) 48) n) i = (decide (i < 48) && anyB (fun k => P k && R k i) n) := by
  intro n
  induction n with
  | zero => intro i _; rw [uni, bL_0, anyB, Bool.and_false]
  | succ n ih =>
    intro i hi
    rw [uni, anyB]
    by_cases hp : P n
    · rw [if_pos hp, bL_or, ih i hi, b48 hi, hp]
      cases decide (i < 48) <;> simp
    · rw [if_neg hp, ih i hi]
      have : P n = false := by simpa using hp
      rw [this]; simp
theorem uni_set {P : Nat → Bool} {R : Nat → Nat → Bool} (n : Nat) : uni P (fun k => setL (R k) 48) n = setL (fun i => anyB (fun k => P k && R k i) n) 48 :=
  setL_of (by omega) (fun i hi => uni_bits n i hi)
theorem uni_congr {P P' : Nat → Bool} {S : Nat → Int64} : ∀ {n : Nat}, (∀ k, k < n → P k = P' k) → uni P S n = uni P' S n := by
  intro n
  induction n with
  | zero => intro _; rfl
  | succ n ih => intro h; rw [uni, uni, ih (fun k hk => h k (by omega)), h n (by omega)]
/-- is watched by some; by some who is awake -/
def wtc (s : Nat → Int32) (nt n c : Nat) : Bool := anyB (fun k => sgt s nt k c) n
def awS (s : Nat → Int32) (k : Nat) : Bool := awk (s (10 + 4 * k + 0)) (s (10 + 4 * k + 3)) (s 2)
def gdd (s : Nat → Int32) (nt n c : Nat) : Bool := anyB (fun k => awS s k && sgt s nt k c) n
def bld (s : Nat → Int32) (nt n c : Nat) : Bool := !(wll s c) && !(wtc s nt n c)
theorem all48 : ∀ i, i < 64 → bL 281474976710655 i = decide (i < 48) := by decide +kernel
theorem bL_not (x : Int64) {i : Nat} (hi : i < 64) : bL (x ^^^ (-1)) i = !(bL x i) := by rw [bL_xor, bL_m1 hi]; simp
/-- small sets of posts -/
def b3 (x : Int32) (i : Nat) : Bool := x.toBitVec.getLsbD i
theorem b3_or (x y : Int32) (i : Nat) : b3 (x ||| y) i = (b3 x i || b3 y i) := by
  unfold b3; rw [Int32.toBitVec_or, BitVec.getLsbD_or]
theorem b3_and (x y : Int32) (i : Nat) : b3 (x &&& y) i = (b3 x i && b3 y i) := by
  unfold b3; rw [Int32.toBitVec_and, BitVec.getLsbD_and]
theorem b3_ext {x y : Int32} (h : ∀ i, i < 32 → b3 x i = b3 y i) : x = y := by
  apply Int32.toBitVec_inj.mp
  apply BitVec.eq_of_getLsbD_eq
  intro i hi
  exact h i hi
theorem b3_bit : ∀ k, k < 31 → ∀ i, i < 32 → b3 (shl32 (nI 1) (nI k)) i = decide (i = k) := by decide +kernel
theorem b3_0 : ∀ i, i < 32 → b3 (nI 0) i = false := by decide +kernel
theorem b3_1 : ∀ i, i < 32 → b3 (nI 1) i = decide (i = 0) := by decide +kernel
theorem s3_amt : ∀ k, k < 32 → ((nI k &&& 31).toBitVec.smod 32).toNat = k := by decide +kernel
theorem b3_shr0 (x : Int32) {k : Nat} (hk : k < 32) : b3 (shr32 x (nI k)) 0 = b3 x k := by
  unfold b3 shr32
  rw [Int32.toBitVec_shiftRight, BitVec.sshiftRight_eq', s3_amt k hk, BitVec.getLsbD_sshiftRight]
  have h1 : ¬ 32 ≤ k := by omega
  simp [h1, hk]
/-- post k is in a set -/
def pb (x : Int32) (k : Nat) : Bool := decide (shr32 x (nI k) &&& nI 1 = nI 1)
theorem pb_eq (x : Int32) {k : Nat} (hk : k < 32) : pb x k = b3 x k := by
  unfold pb
  rw [← b3_shr0 x hk]
  by_cases h : b3 (shr32 x (nI k)) 0 = true
  · rw [h]
    apply decide_eq_true
    apply b3_ext
    intro i hi
    rw [b3_and, b3_1 i hi]
    by_cases e : i = 0
    · subst e; rw [h]; rfl
    · simp [e]
  · have h' : b3 (shr32 x (nI k)) 0 = false := by simpa using h
    rw [h']
    apply decide_eq_false
    intro z
    have := congrArg (fun y => b3 y 0) z
    simp only [b3_and, h', b3_1 0 (by omega)] at this
    simp at this
def orS (f : Nat → Bool) : Nat → Int32
  | 0 => nI 0
  | k + 1 => if f k then orS f k ||| shl32 (nI 1) (nI k) else orS f k
theorem b3_orS (f : Nat → Bool) : ∀ n, n ≤ 31 → ∀ i, i < 32 → b3 (orS f n) i = (decide (i < n) && f i) := by
  intro n
  induction n with
  | zero => intro _ i hi; rw [orS, b3_0 i hi]; simp
  | succ n ih =>
    intro hn i hi
    rw [orS]
    by_cases hp : f n
    · rw [if_pos hp, b3_or, ih (by omega) i hi, b3_bit n (by omega) i hi]
      by_cases h1 : i = n
      · subst h1; simp [hp]
      · have : (i < n + 1) ↔ i < n := by omega
        simp [h1, this]
    · rw [if_neg hp, ih (by omega) i hi]
      by_cases h1 : i = n
      · subst h1; simp [hp]
      · have : (i < n + 1) ↔ i < n := by omega
        simp [this]
theorem pb_orS {f : Nat → Bool} {n k : Nat} (hn : n ≤ 8) (hk : k < n) : pb (orS f n) k = f k := by
  rw [pb_eq _ (by omega), b3_orS f n (by omega) k (by omega)]
  simp [hk]
theorem every_b : ∀ n, n ≤ 8 → ∀ k, k < n → pb (shl32 (nI 1) (nI n) - nI 1) k = true := by decide +kernel
theorem or0I (x : Int32) : x ||| nI 0 = x := by
  apply b3_ext; intro i hi; rw [b3_or, b3_0 i hi, Bool.or_false]
theorem and1L (x : Int64) : x &&& (-1) = x := by
  apply bL_ext; intro i hi; rw [bL_and, bL_m1 hi, Bool.and_true]
/-- walls taken out one by one -/
def nwl (x : Int64) (f : Nat → Bool) : Nat → Int64
  | 0 => x
  | k + 1 => if f k then nwl x f k &&& (shl64 1 (nI k) ^^^ (-1)) else nwl x f k
theorem nwl_bits (x : Int64) (f : Nat → Bool) : ∀ n, n ≤ 48 → ∀ i, i < 64 → bL (nwl x f n) i = (bL x i && !(decide (i < n) && f i)) := by
  intro n
  induction n with
  | zero => intro _ i _; rw [nwl]; simp
  | succ n ih =>
    intro hn i hi
    rw [nwl]
    by_cases hp : f n
    · rw [if_pos hp, bL_and, ih (by omega) i hi, bL_not _ hi, bL_bit (by omega) hi]
      by_cases h1 : i = n
      · subst h1; simp [hp]
      · have : (i < n + 1) ↔ i < n := by omega
        simp [h1, this]
    · rw [if_neg hp, ih (by omega) i hi]
      by_cases h1 : i = n
      · subst h1; simp [hp]
      · have : (i < n + 1) ↔ i < n := by omega
        simp [this]
theorem blind_m {R W : Nat → Bool} : nwl (setL R 48 ^^^ (-1)) W 48 &&& 281474976710655 = setL (fun c => !(W c) && !(R c)) 48 := by
  apply setL_of (by omega)
  intro i hi
  rw [bL_and, nwl_bits _ _ 48 (by omega) i hi, bL_not _ hi, b48 hi, all48 i hi]
  cases decide (i < 48) <;> cases R i <;> cases W i <;> rfl
theorem blind_c {R W : Nat → Bool} : 281474976710655 &&& (setL W 48 ^^^ (-1)) &&& (setL R 48 ^^^ (-1)) = setL (fun c => !(W c) && !(R c)) 48 := by
  apply setL_of (by omega)
  intro i hi
  rw [bL_and, bL_and, bL_not _ hi, bL_not _ hi, b48 hi, b48 hi, all48 i hi]
  cases decide (i < 48) <;> cases R i <;> cases W i <;> rfl
def smF (f : Nat → Int32) : Nat → Int32
  | 0 => nI 0
  | k + 1 => smF f k + f k

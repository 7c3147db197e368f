/-! pure rows: comparisons, ranges -/
theorem lg_lt0 (x y : Int64) : lg_cmp x y < 0 ↔ x < y := by
  unfold lg_cmp
  by_cases h1 : y < x
  · rw [if_pos h1]; constructor
    · intro z; exact absurd z (by decide)
    · intro z; rw [Int64.lt_iff_toInt_lt] at h1 z; omega
  · rw [if_neg h1]
    by_cases h2 : x = y
    · rw [if_pos h2]; constructor
      · intro z; exact absurd z (by decide)
      · intro z; subst h2; exact absurd z h1
    · rw [if_neg h2]; constructor
      · intro _
        have h3 : ¬ x.toInt = y.toInt := fun z => h2 (Int64.toInt_inj.mp z)
        rw [Int64.lt_iff_toInt_lt] at h1 ⊢; omega
      · intro _; decide
theorem lg_gt0 (x y : Int64) : 0 < lg_cmp x y ↔ y < x := by
  unfold lg_cmp
  by_cases h1 : y < x
  · rw [if_pos h1]; exact ⟨fun _ => h1, fun _ => by decide⟩
  · rw [if_neg h1]
    by_cases h2 : x = y
    · rw [if_pos h2]; exact ⟨fun z => absurd z (by decide), fun z => absurd z h1⟩
    · rw [if_neg h2]; exact ⟨fun z => absurd z (by decide), fun z => absurd z h1⟩
theorem lg_eq0 (x y : Int64) : lg_cmp x y = 0 ↔ x = y := by
  unfold lg_cmp
  by_cases h1 : y < x
  · rw [if_pos h1]; constructor
    · intro z; exact absurd z (by decide)
    · intro z; subst z; rw [Int64.lt_iff_toInt_lt] at h1; omega
  · rw [if_neg h1]
    by_cases h2 : x = y
    · rw [if_pos h2]; exact ⟨fun _ => h2, fun _ => rfl⟩
    · rw [if_neg h2]; exact ⟨fun z => absurd z (by decide), fun z => absurd z h2⟩
theorem lg_le0 (x y : Int64) : lg_cmp x y ≤ 0 ↔ x ≤ y := by
  have h := lg_gt0 x y
  rw [← Int32.not_lt, ← Int64.not_lt, h]
theorem lg_ge0 (x y : Int64) : 0 ≤ lg_cmp x y ↔ y ≤ x := by
  have h := lg_lt0 x y
  rw [← Int32.not_lt, ← Int64.not_lt, h]
theorem fw_le (a b : Int32) : a.toInt64 ≤ b.toInt64 ↔ a ≤ b := by
  rw [Int64.le_iff_toInt_le, Int32.le_iff_toInt_le, Int32.toInt_toInt64, Int32.toInt_toInt64]
/-- a number in 0 .. n less 1 -/
def inR (v : Int32) (n : Nat) : Prop := ∃ k : Nat, k < n ∧ v = nI k
theorem inR_iff {v : Int32} {n : Nat} (hn : n < 2147483648) : (0 ≤ v ∧ v < nI n) ↔ inR v n := by
  constructor
  · rintro ⟨h1, h2⟩
    obtain ⟨k, hk, rfl⟩ := nI_of (Int32.not_lt.mpr h1)
    exact ⟨k, (nI_ltI hk (by omega)).mp h2, rfl⟩
  · rintro ⟨k, hk, rfl⟩
    exact ⟨nI_pos' (by omega), nI_lt hk (by omega)⟩
theorem inR_iffL {v : Int32} {n : Nat} (hn : n < 2147483647) : ((0 : Int64) ≤ v.toInt64 ∧ v.toInt64 ≤ (nI n).toInt64) ↔ inR v (n + 1) := by
  have e0 : (0 : Int64) = (0 : Int32).toInt64 := by decide
  rw [e0, fw_le, fw_le]
  constructor
  · rintro ⟨h1, h2⟩
    obtain ⟨k, hk, rfl⟩ := nI_of (Int32.not_lt.mpr h1)
    exact ⟨k, by have := (nI_leI hk (by omega)).mp h2; omega, rfl⟩
  · rintro ⟨k, hk, rfl⟩
    exact ⟨nI_pos' (by omega), nI_le (by omega) (by omega)⟩
theorem inR_iffN {v : Int32} {n : Nat} (hn : n < 2147483647) : ((0 : Int64) ≤ v.toInt64 ∧ v.toInt64 ≤ (nI n - nI 1).toInt64) ↔ inR v n := by
  have e0 : (0 : Int64) = (0 : Int32).toInt64 := by decide
  rw [e0, fw_le, fw_le]
  cases n with
  | zero =>
    constructor
    · rintro ⟨h1, h2⟩
      have e : nI 0 - nI 1 = -1 := by decide
      rw [e] at h2
      rw [Int32.le_iff_toInt_le] at h1 h2
      have e1 : (0 : Int32).toInt = 0 := by decide
      have e2 : (-1 : Int32).toInt = -1 := by decide
      omega
    · rintro ⟨k, hk, -⟩; omega
  | succ n =>
    have e : nI (n + 1) - nI 1 = nI n := nI_pred n
    rw [e]
    constructor
    · rintro ⟨h1, h2⟩
      obtain ⟨k, hk, rfl⟩ := nI_of (Int32.not_lt.mpr h1)
      exact ⟨k, by have := (nI_leI hk (by omega)).mp h2; omega, rfl⟩
    · rintro ⟨k, hk, rfl⟩
      exact ⟨nI_pos' (by omega), nI_le (by omega) (by omega)⟩
theorem inR_in {v : Int32} {n : Nat} (h : inR v n) (hn : n < 2147483648) : vp_in v n := by
  obtain ⟨k, hk, rfl⟩ := h
  exact vp_in_nI hk hn
theorem nI_sub {a b : Nat} (h : b ≤ a) : nI a - nI b = nI (a - b) := pk_sub h
theorem nI_mul (a b : Nat) : nI a * nI b = nI (a * b) := pk_mul a b
theorem nI_div {a b : Nat} (ha : a < 2147483648) (h0 : 0 < b) (hb : b < 2147483648) : nI a / nI b = nI (a / b) := pk_div ha h0 hb
theorem nI_rem {a b : Nat} (ha : a < 2147483648) (h0 : 0 < b) (hb : b < 2147483648) : rm32 (nI a) (nI b) = nI (a % b) := pk_rem ha h0 hb
theorem hc_ne {a : Nat} (h : 0 < a) (hb : a < 2147483648) : ¬ nI a = 0 := nI_ne0 h hb

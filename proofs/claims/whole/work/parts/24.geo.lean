/-! lines between cells -/
def iI (z : Int) : Int32 := Int32.ofInt z
theorem iI_nI (n : Nat) : nI n = iI (n : Int) := by
  apply Int32.toBitVec_inj.mp
  rfl
theorem iI_add (a b : Int) : iI a + iI b = iI (a + b) := (Int32.ofInt_add a b).symm
theorem iI_sub (a b : Int) : iI a - iI b = iI (a - b) := (Int32.ofInt_sub a b).symm
theorem iI_mul (a b : Int) : iI a * iI b = iI (a * b) := (Int32.ofInt_mul a b).symm
theorem iI_toInt {z : Int} (h1 : -2147483648 ≤ z) (h2 : z < 2147483648) : (iI z).toInt = z := by
  unfold iI
  rw [Int32.toInt_ofInt]
  show Int.bmod z 4294967296 = z
  exact Int.bmod_eq_of_le (by omega) (by omega)
theorem iI_lt {a b : Int} (h1 : -2147483648 ≤ a) (h2 : a < 2147483648) (h3 : -2147483648 ≤ b) (h4 : b < 2147483648) : iI a < iI b ↔ a < b := by
  rw [Int32.lt_iff_toInt_lt, iI_toInt h1 h2, iI_toInt h3 h4]
theorem iI_le {a b : Int} (h1 : -2147483648 ≤ a) (h2 : a < 2147483648) (h3 : -2147483648 ≤ b) (h4 : b < 2147483648) : iI a ≤ iI b ↔ a ≤ b := by
  rw [Int32.le_iff_toInt_le, iI_toInt h1 h2, iI_toInt h3 h4]
/-- how far off, whichever way -/
def mxA (r q : Int) : Nat := max r.natAbs q.natAbs
/-- by how many rows (columns) the k-th step of n is off -/
def dlt (r : Int) (n k : Nat) : Int := (2 * r * k + n) / (2 * n)
theorem dlt_in {r : Int} {n k : Nat} (hk : k < n) (hr : r.natAbs ≤ n) : (0 ≤ r → 0 ≤ dlt r n k ∧ dlt r n k ≤ r) ∧ (r ≤ 0 → r ≤ dlt r n k ∧ dlt r n k ≤ 0) := by
  unfold dlt
  have hn : (0 : Int) < 2 * (n : Int) := by omega
  have hkn : (k : Int) < n := by omega
  have hk0 : (0 : Int) ≤ k := by omega
  constructor
  · intro h0
    have a1 : 0 ≤ r * k := Int.mul_nonneg h0 hk0
    have a2 : r * k ≤ r * n := Int.mul_le_mul_of_nonneg_left (by omega) h0
    have a3 : r * k ≤ r * n - r := by
      have : r * k ≤ r * (n - 1) := Int.mul_le_mul_of_nonneg_left (by omega) h0
      rw [Int.mul_sub, Int.mul_one] at this
      exact this
    have e : 2 * r * k = 2 * (r * k) := Int.mul_assoc 2 r k
    rw [e]
    constructor
    · exact Int.ediv_nonneg (by omega) (by omega)
    · have : (2 * (r * ↑k) + ↑n) / (2 * ↑n) < r + 1 := by
        apply Int.ediv_lt_of_lt_mul hn
        rw [Int.add_mul]
        have e2 : r * (2 * (n : Int)) = 2 * (r * n) := by rw [← Int.mul_assoc, Int.mul_comm r 2, Int.mul_assoc]
        omega
      omega
  · intro h0
    have a1 : r * k ≤ 0 := Int.mul_nonpos_of_nonpos_of_nonneg h0 hk0
    have a2 : r * n ≤ r * k := Int.mul_le_mul_of_nonpos_left h0 (by omega)
    have e : 2 * r * k = 2 * (r * k) := Int.mul_assoc 2 r k
    rw [e]
    constructor
    · apply Int.le_ediv_of_mul_le hn
      have e2 : r * (2 * (n : Int)) = 2 * (r * n) := by rw [← Int.mul_assoc, Int.mul_comm r 2, Int.mul_assoc]
      omega
    · have : (2 * (r * ↑k) + ↑n) / (2 * ↑n) < 1 := by
        apply Int.ediv_lt_of_lt_mul hn
        omega
      omega
/-- the cell of the k-th step, from c, r rows and q columns off -/
def pcl (c : Nat) (r q : Int) (k : Nat) : Nat := ((c : Int) + 8 * dlt r (mxA r q) k + dlt q (mxA r q) k).toNat
abbrev rwO (c t : Nat) : Int := (t / 8 : Nat) - (c / 8 : Nat)
abbrev clO (c t : Nat) : Int := (t % 8 : Nat) - (c % 8 : Nat)
theorem pcl_eq {c t k : Nat} (hc : c < 48) (ht : t < 48) (hk : k < mxA (rwO c t) (clO c t)) : (c : Int) + 8 * dlt (rwO c t) (mxA (rwO c t) (clO c t)) k + dlt (clO c t) (mxA (rwO c t) (clO c t)) k = (pcl c (rwO c t) (clO c t) k : Int) ∧ pcl c (rwO c t) (clO c t) k < 48 := by
  have h1 := dlt_in (r := rwO c t) hk (Nat.le_max_left _ _)
  have h2 := dlt_in (r := clO c t) hk (Nat.le_max_right _ _)
  unfold pcl
  generalize dlt (rwO c t) (mxA (rwO c t) (clO c t)) k = x at *
  generalize dlt (clO c t) (mxA (rwO c t) (clO c t)) k = y at *
  simp only [rwO, clO] at *
  omega
/-- rows a less 5, columns e less 7: the machine's own division, both ways -/
theorem geo_fd : ∀ a : Nat, a < 15 → ∀ n : Nat, n < 8 → ∀ k : Nat, k < n → fd32 (nI 2 * iI ((a : Int) - 7) * nI k + nI n) (nI 2 * nI n) = iI (dlt ((a : Int) - 7) n k) ∧ nrs (iI ((a : Int) - 7) * nI k) (nI n) = iI (dlt ((a : Int) - 7) n k) := by decide +kernel
theorem geo_n : ∀ a : Nat, a < 15 → ∀ e : Nat, e < 15 → mx32 (ab32 (iI ((a : Int) - 7))) (ab32 (iI ((e : Int) - 7))) = nI (mxA ((a : Int) - 7) ((e : Int) - 7)) ∧ (if offI (iI ((e : Int) - 7)) (nI 0) < offI (iI ((a : Int) - 7)) (nI 0) then offI (iI ((a : Int) - 7)) (nI 0) else offI (iI ((e : Int) - 7)) (nI 0)) = nI (mxA ((a : Int) - 7) ((e : Int) - 7)) ∧ ab32 (iI ((a : Int) - 7)) + ab32 (iI ((e : Int) - 7)) = offI (iI ((a : Int) - 7)) (nI 0) + offI (iI ((e : Int) - 7)) (nI 0) := by decide +kernel
theorem geo_lk1 : ∀ a : Nat, a < 15 → ∀ e : Nat, e < 15 → ∀ si : Nat, si < 4 → (a = 7 ∧ e = 7) ∨ lks (nI 1) (nI si) (iI ((a : Int) - 7)) (iI ((e : Int) - 7)) = lkM (nI 1) (nI si) (iI ((a : Int) - 7)) (iI ((e : Int) - 7)) := by decide +kernel
theorem geo_lk3 : ∀ a : Nat, a < 15 → ∀ e : Nat, e < 15 → ∀ si : Nat, si < 4 → (a = 7 ∧ e = 7) ∨ lks (nI 3) (nI si) (iI ((a : Int) - 7)) (iI ((e : Int) - 7)) = lkM (nI 3) (nI si) (iI ((a : Int) - 7)) (iI ((e : Int) - 7)) := by decide +kernel
theorem geo_lk4 : ∀ a : Nat, a < 15 → ∀ e : Nat, e < 15 → ∀ si : Nat, si < 4 → (a = 7 ∧ e = 7) ∨ lks (nI 4) (nI si) (iI ((a : Int) - 7)) (iI ((e : Int) - 7)) = lkM (nI 4) (nI si) (iI ((a : Int) - 7)) (iI ((e : Int) - 7)) := by decide +kernel
theorem off_code {z : Int} (h1 : -7 ≤ z) (h2 : z ≤ 7) : ∃ a : Nat, a < 15 ∧ z = (a : Int) - 7 := ⟨(z + 7).toNat, by omega, by omega⟩
theorem lk_same {kd : Int32} {si : Nat} {r q : Int} (hs : si < 4) (h1 : -7 ≤ r ∧ r ≤ 7) (h2 : -7 ≤ q ∧ q ≤ 7) (h : ¬ (r = 0 ∧ q = 0)) : lks kd (nI si) (iI r) (iI q) = lkM kd (nI si) (iI r) (iI q) := by
  obtain ⟨a, ha, rfl⟩ := off_code h1.1 h1.2
  obtain ⟨e, he, rfl⟩ := off_code h2.1 h2.2
  have g1 := (geo_lk1 a ha e he si hs).resolve_left (by omega)
  have g2 := (geo_lk3 a ha e he si hs).resolve_left (by omega)
  have g3 := (geo_lk4 a ha e he si hs).resolve_left (by omega)
  by_cases k1 : kd = nI 1
  · rw [k1]; exact g1
  by_cases k3 : kd = nI 3
  · rw [k3]; exact g2
  by_cases k4 : kd = nI 4
  · rw [k4]; exact g3
  unfold lks lkM
  rw [if_neg k1, if_neg k3, if_neg k4, if_neg k1, if_neg k3, if_neg k4]
theorem rw32 {c t : Nat} (hc : c < 48) (ht : t < 48) : nI t / nI 8 - nI c / nI 8 = iI (rwO c t) := by
  rw [nI_div (by omega) (by omega) (by omega), nI_div (by omega) (by omega) (by omega), iI_nI, iI_nI, iI_sub]
theorem cl32 {c t : Nat} (hc : c < 48) (ht : t < 48) : rm32 (nI t) (nI 8) - rm32 (nI c) (nI 8) = iI (clO c t) := by
  rw [nI_rem (by omega) (by omega) (by omega), nI_rem (by omega) (by omega) (by omega), iI_nI, iI_nI, iI_sub]
/-- no wall on the way -/
def clrF (f : Nat → Bool) : Nat → Nat → Bool
  | 0, _ => true
  | m + 1, k => !f k && clrF f m (k + 1)

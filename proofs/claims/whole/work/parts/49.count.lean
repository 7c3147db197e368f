/-! how many bits -/
def cntF : Nat → Nat → Nat
  | 0, _ => 0
  | k + 1, x => x % 2 + cntF k (x / 2)
theorem cnt_down : ∀ (k x : Nat), 0 < x → x < 2 ^ k → cntF k (x &&& (x - 1)) + 1 = cntF k x := by
  intro k
  induction k with
  | zero => intro x h1 h2; simp at h2; omega
  | succ k ih =>
    intro x h1 h2
    rw [cntF, cntF, Nat.and_div_two]
    have h3 : x / 2 < 2 ^ k := by rw [Nat.pow_succ] at h2; omega
    have e2 : (x &&& (x - 1)) % 2 = 0 := by
      have : ¬ (x &&& (x - 1)) % 2 = 1 := by rw [Nat.and_mod_two_eq_one]; omega
      omega
    by_cases hx : x % 2 = 1
    · have e1 : (x - 1) / 2 = x / 2 := by omega
      rw [e1, Nat.and_self, e2, hx]; omega
    · have e1 : (x - 1) / 2 = x / 2 - 1 := by omega
      rw [e1, e2, show x % 2 = 0 by omega, ← ih (x / 2) (by omega) h3]; omega
theorem cnt_8 (k x : Nat) : cntF (k + 8) x = x % 2 + (x / 2 % 2 + (x / 2 / 2 % 2 + (x / 2 / 2 / 2 % 2 + (x / 2 / 2 / 2 / 2 % 2 + (x / 2 / 2 / 2 / 2 / 2 % 2 + (x / 2 / 2 / 2 / 2 / 2 / 2 % 2 + (x / 2 / 2 / 2 / 2 / 2 / 2 / 2 % 2 + cntF k (x / 2 / 2 / 2 / 2 / 2 / 2 / 2 / 2)))))))) := rfl
theorem cnt_byte (k a X : Nat) (ha : a < 256) : cntF (k + 8) (a + 256 * X) = cntF 8 a + cntF k X := by
  have e := cnt_8 0 a
  rw [Nat.zero_add] at e
  rw [cnt_8, e, show (a + 256 * X) / 2 / 2 / 2 / 2 / 2 / 2 / 2 / 2 = X by omega]
  have e0 : cntF 0 (a / 2 / 2 / 2 / 2 / 2 / 2 / 2 / 2) = 0 := rfl
  rw [e0]
  omega
theorem dig_bit (i a A : Nat) (h : a < 256) : (a + 256 * A).testBit i = if i < 8 then a.testBit i else A.testBit (i - 8) := by
  rw [Nat.add_comm]
  exact Nat.testBit_two_pow_mul_add (i := 8) A h i
theorem and_dig {a c A C : Nat} (ha : a < 256) (hc : c < 256) : (a + 256 * A) &&& (c + 256 * C) = (a &&& c) + 256 * (A &&& C) := by
  apply Nat.eq_of_testBit_eq
  intro i
  rw [Nat.testBit_and, dig_bit i a A ha, dig_bit i c C hc, dig_bit i _ _ (Nat.lt_of_le_of_lt Nat.and_le_left ha)]
  split <;> rw [Nat.testBit_and]
theorem shr_dig (s : Nat) {a c A C : Nat} (hs : s ≤ 8) (ha : a < 256) (hc : c < 2 ^ (8 - s)) : (a + 256 * A) / 2 ^ s &&& (c + 256 * C) = (a / 2 ^ s &&& c) + 256 * (A / 2 ^ s &&& C) := by
  have hc2 : c < 256 := Nat.lt_of_lt_of_le hc (Nat.pow_le_pow_right (n := 2) (j := 8) (by decide) (by omega))
  apply Nat.eq_of_testBit_eq
  intro i
  rw [Nat.testBit_and, Nat.testBit_div_two_pow, dig_bit (i + s) a A ha, dig_bit i c C hc2, dig_bit i _ _ (Nat.lt_of_le_of_lt Nat.and_le_right hc2)]
  by_cases h8 : i < 8
  · rw [if_pos h8, if_pos h8, Nat.testBit_and, Nat.testBit_div_two_pow]
    by_cases h9 : i + s < 8
    · rw [if_pos h9]
    · have hz : c.testBit i = false := Nat.testBit_lt_two_pow (Nat.lt_of_lt_of_le hc (Nat.pow_le_pow_right (by decide) (by omega)))
      rw [hz, Bool.and_false, Bool.and_false]
  · rw [if_neg h8, if_neg h8, if_neg (by omega), Nat.testBit_and, Nat.testBit_div_two_pow, show i + s - 8 = i - 8 + s by omega]
def y1 (a : Nat) : Nat := a / 2 ^ 1 &&& 85
def y2 (a : Nat) : Nat := a - y1 a
def y3 (a : Nat) : Nat := (y2 a &&& 51) + (y2 a / 2 ^ 2 &&& 51)
theorem byt : ∀ a, a < 256 → y1 a ≤ a ∧ y2 a < 256 ∧ y3 a ≤ 68 ∧ y3 a % 16 ≤ 4 ∧ (y3 a + y3 a / 16) % 16 = cntF 8 a ∧ cntF 8 a ≤ 8 := by decide +kernel
def V8 (a b c d e f u v : Nat) : Nat := a + 256 * (b + 256 * (c + 256 * (d + 256 * (e + 256 * (f + 256 * (u + 256 * v))))))
theorem sw_ex (x : Nat) (h : x < 18446744073709551616) : ∃ a b c d w f u v : Nat, a < 256 ∧ b < 256 ∧ c < 256 ∧ d < 256 ∧ w < 256 ∧ f < 256 ∧ u < 256 ∧ v < 256 ∧ x = V8 a b c d w f u v := by
  refine ⟨x % 256, x / 256 % 256, x / 65536 % 256, x / 16777216 % 256, x / 4294967296 % 256, x / 1099511627776 % 256, x / 281474976710656 % 256, x / 72057594037927936, ?_, ?_, ?_, ?_, ?_, ?_, ?_, ?_, ?_⟩ <;> (try unfold V8) <;> omega
theorem sw_cnt {a b c d w f u v : Nat} (ha : a < 256) (hb : b < 256) (hc : c < 256) (hd : d < 256) (hw : w < 256) (hf : f < 256) (hu : u < 256) (hv : v < 256) : cntF 64 (V8 a b c d w f u v) = cntF 8 a + cntF 8 b + cntF 8 c + cntF 8 d + cntF 8 w + cntF 8 f + cntF 8 u + cntF 8 v := by
  unfold V8
  rw [cnt_byte 56 a _ ha, cnt_byte 48 b _ hb, cnt_byte 40 c _ hc, cnt_byte 32 d _ hd, cnt_byte 24 w _ hw, cnt_byte 16 f _ hf, cnt_byte 8 u _ hu]
  omega
theorem sw_1 {a b c d w f u v : Nat} (ha : a < 256) (hb : b < 256) (hc : c < 256) (hd : d < 256) (hw : w < 256) (hf : f < 256) (hu : u < 256) (hv : v < 256) : V8 a b c d w f u v / 2 ^ 1 &&& 6148914691236517205 = V8 (y1 a) (y1 b) (y1 c) (y1 d) (y1 w) (y1 f) (y1 u) (y1 v) := by
  rw [show 6148914691236517205 = V8 85 85 85 85 85 85 85 85 from rfl]
  unfold V8 y1
  rw [shr_dig 1 (by decide) ha (by decide), shr_dig 1 (by decide) hb (by decide), shr_dig 1 (by decide) hc (by decide), shr_dig 1 (by decide) hd (by decide), shr_dig 1 (by decide) hw (by decide), shr_dig 1 (by decide) hf (by decide), shr_dig 1 (by decide) hu (by decide)]
theorem sw_2 {a b c d w f u v : Nat} (ha : a < 256) (hb : b < 256) (hc : c < 256) (hd : d < 256) (hw : w < 256) (hf : f < 256) (hu : u < 256) (hv : v < 256) : V8 a b c d w f u v &&& 3689348814741910323 = V8 (a &&& 51) (b &&& 51) (c &&& 51) (d &&& 51) (w &&& 51) (f &&& 51) (u &&& 51) (v &&& 51) := by
  rw [show 3689348814741910323 = V8 51 51 51 51 51 51 51 51 from rfl]
  unfold V8
  rw [and_dig ha (by decide), and_dig hb (by decide), and_dig hc (by decide), and_dig hd (by decide), and_dig hw (by decide), and_dig hf (by decide), and_dig hu (by decide)]
theorem sw_2s {a b c d w f u v : Nat} (ha : a < 256) (hb : b < 256) (hc : c < 256) (hd : d < 256) (hw : w < 256) (hf : f < 256) (hu : u < 256) (hv : v < 256) : V8 a b c d w f u v / 2 ^ 2 &&& 3689348814741910323 = V8 (a / 2 ^ 2 &&& 51) (b / 2 ^ 2 &&& 51) (c / 2 ^ 2 &&& 51) (d / 2 ^ 2 &&& 51) (w / 2 ^ 2 &&& 51) (f / 2 ^ 2 &&& 51) (u / 2 ^ 2 &&& 51) (v / 2 ^ 2 &&& 51) := by
  rw [show 3689348814741910323 = V8 51 51 51 51 51 51 51 51 from rfl]
  unfold V8
  rw [shr_dig 2 (by decide) ha (by decide), shr_dig 2 (by decide) hb (by decide), shr_dig 2 (by decide) hc (by decide), shr_dig 2 (by decide) hd (by decide), shr_dig 2 (by decide) hw (by decide), shr_dig 2 (by decide) hf (by decide), shr_dig 2 (by decide) hu (by decide)]
theorem sw_f {a b c d w f u v : Nat} (ha : a < 256) (hb : b < 256) (hc : c < 256) (hd : d < 256) (hw : w < 256) (hf : f < 256) (hu : u < 256) (hv : v < 256) : V8 a b c d w f u v &&& 1085102592571150095 = V8 (a % 16) (b % 16) (c % 16) (d % 16) (w % 16) (f % 16) (u % 16) (v % 16) := by
  rw [show 1085102592571150095 = V8 15 15 15 15 15 15 15 15 from rfl]
  unfold V8
  rw [and_dig ha (by decide), and_dig hb (by decide), and_dig hc (by decide), and_dig hd (by decide), and_dig hw (by decide), and_dig hf (by decide), and_dig hu (by decide)]
  have ee : ∀ z : Nat, z &&& 15 = z % 16 := fun z => Nat.and_two_pow_sub_one_eq_mod z 4
  rw [ee a, ee b, ee c, ee d, ee w, ee f, ee u, ee v]
theorem sw_3 {a b c d w f u v : Nat} (ha : a ≤ 68 ∧ a % 16 ≤ 4) (hb : b ≤ 68 ∧ b % 16 ≤ 4) (hc : c ≤ 68 ∧ c % 16 ≤ 4) (hd : d ≤ 68 ∧ d % 16 ≤ 4) (hw : w ≤ 68 ∧ w % 16 ≤ 4) (hf : f ≤ 68 ∧ f % 16 ≤ 4) (hu : u ≤ 68 ∧ u % 16 ≤ 4) (hv : v ≤ 68 ∧ v % 16 ≤ 4) : V8 a b c d w f u v + V8 a b c d w f u v / 2 ^ 4 = V8 (a + a / 16 + 16 * (b % 16)) (b + b / 16 + 16 * (c % 16)) (c + c / 16 + 16 * (d % 16)) (d + d / 16 + 16 * (w % 16)) (w + w / 16 + 16 * (f % 16)) (f + f / 16 + 16 * (u % 16)) (u + u / 16 + 16 * (v % 16)) (v + v / 16) := by
  unfold V8
  omega
theorem sw_4 {a b c d w f u v : Nat} (ha : a ≤ 8) (hb : b ≤ 8) (hc : c ≤ 8) (hd : d ≤ 8) (hw : w ≤ 8) (hf : f ≤ 8) (hu : u ≤ 8) (hv : v ≤ 8) : V8 a b c d w f u v + V8 a b c d w f u v / 2 ^ 8 = V8 (a + b) (b + c) (c + d) (d + w) (w + f) (f + u) (u + v) (v) := by
  unfold V8
  omega
theorem sw_5 {a b c d w f u v : Nat} (ha : a ≤ 16) (hb : b ≤ 16) (hc : c ≤ 16) (hd : d ≤ 16) (hw : w ≤ 16) (hf : f ≤ 16) (hu : u ≤ 16) (hv : v ≤ 16) : V8 a b c d w f u v + V8 a b c d w f u v / 2 ^ 16 = V8 (a + c) (b + d) (c + w) (d + f) (w + u) (f + v) (u) (v) := by
  unfold V8
  omega
theorem sw_6 {a b c d w f u v : Nat} (ha : a ≤ 32) (hb : b ≤ 32) (hc : c ≤ 32) (hd : d ≤ 32) (hw : w ≤ 32) (hf : f ≤ 32) (hu : u ≤ 32) (hv : v ≤ 32) : V8 a b c d w f u v + V8 a b c d w f u v / 2 ^ 32 = V8 (a + w) (b + f) (c + u) (d + v) (w) (f) (u) (v) := by
  unfold V8
  omega
def sw1 (x : Nat) : Nat := x - (x / 2 ^ 1 &&& 6148914691236517205)
def sw2 (x : Nat) : Nat := (x &&& 3689348814741910323) + (x / 2 ^ 2 &&& 3689348814741910323)
def sw3 (x : Nat) : Nat := x + x / 2 ^ 4 &&& 1085102592571150095
def sw4 (x : Nat) : Nat := x + x / 2 ^ 8
def sw5 (x : Nat) : Nat := x + x / 2 ^ 16
def sw6 (x : Nat) : Nat := x + x / 2 ^ 32
def swT (x : Nat) : Prop := (x / 2 ^ 1 &&& 6148914691236517205) ≤ x ∧ sw2 (sw1 x) < 18446744073709551616 ∧ sw2 (sw1 x) + sw2 (sw1 x) / 2 ^ 4 < 18446744073709551616 ∧ sw4 (sw3 (sw2 (sw1 x))) < 18446744073709551616 ∧ sw5 (sw4 (sw3 (sw2 (sw1 x)))) < 18446744073709551616 ∧ sw6 (sw5 (sw4 (sw3 (sw2 (sw1 x))))) < 18446744073709551616 ∧ sw6 (sw5 (sw4 (sw3 (sw2 (sw1 x))))) % 128 = cntF 64 x ∧ cntF 64 x ≤ 64
theorem sw_fin {a b c d w f u v : Nat} (ha : a ≤ 8) (hb : b ≤ 8) (hc : c ≤ 8) (hd : d ≤ 8) (hw : w ≤ 8) (hf : f ≤ 8) (hu : u ≤ 8) (hv : v ≤ 8) : V8 (a + b) (b + c) (c + d) (d + w) (w + f) (f + u) (u + v) (v) < 18446744073709551616 ∧ V8 (a + b + (c + d)) (b + c + (d + w)) (c + d + (w + f)) (d + w + (f + u)) (w + f + (u + v)) (f + u + (v)) (u + v) (v) < 18446744073709551616 ∧ V8 (a + b + (c + d) + (w + f + (u + v))) (b + c + (d + w) + (f + u + (v))) (c + d + (w + f) + (u + v)) (d + w + (f + u) + (v)) (w + f + (u + v)) (f + u + (v)) (u + v) (v) < 18446744073709551616 ∧ (V8 (a + b + (c + d) + (w + f + (u + v))) (b + c + (d + w) + (f + u + (v))) (c + d + (w + f) + (u + v)) (d + w + (f + u) + (v)) (w + f + (u + v)) (f + u + (v)) (u + v) (v)) % 128 = a + b + c + d + w + f + u + v ∧ a + b + c + d + w + f + u + v ≤ 64 := by
  unfold V8
  refine ⟨?_, ?_, ?_, ?_, ?_⟩ <;> omega
theorem sw_fin3 {a b c d w f u v : Nat} (ha : a ≤ 68 ∧ a % 16 ≤ 4) (hb : b ≤ 68 ∧ b % 16 ≤ 4) (hc : c ≤ 68 ∧ c % 16 ≤ 4) (hd : d ≤ 68 ∧ d % 16 ≤ 4) (hw : w ≤ 68 ∧ w % 16 ≤ 4) (hf : f ≤ 68 ∧ f % 16 ≤ 4) (hu : u ≤ 68 ∧ u % 16 ≤ 4) (hv : v ≤ 68 ∧ v % 16 ≤ 4) : V8 a b c d w f u v < 18446744073709551616 ∧ V8 (a + a / 16 + 16 * (b % 16)) (b + b / 16 + 16 * (c % 16)) (c + c / 16 + 16 * (d % 16)) (d + d / 16 + 16 * (w % 16)) (w + w / 16 + 16 * (f % 16)) (f + f / 16 + 16 * (u % 16)) (u + u / 16 + 16 * (v % 16)) (v + v / 16) < 18446744073709551616 := by
  unfold V8
  constructor <;> omega
theorem sw_fin1 {a b c d w f u v a' b' c' d' w' f' u' v' : Nat} (ha : a' ≤ a) (hb : b' ≤ b) (hc : c' ≤ c) (hd : d' ≤ d) (hw : w' ≤ w) (hf : f' ≤ f) (hu : u' ≤ u) (hv : v' ≤ v) : V8 a' b' c' d' w' f' u' v' ≤ V8 a b c d w f u v := by
  unfold V8
  omega
theorem sw_e1 {a b c d w f u v a' b' c' d' w' f' u' v' : Nat} (ha : a' ≤ a) (hb : b' ≤ b) (hc : c' ≤ c) (hd : d' ≤ d) (hw : w' ≤ w) (hf : f' ≤ f) (hu : u' ≤ u) (hv : v' ≤ v) : V8 a b c d w f u v - V8 a' b' c' d' w' f' u' v' = V8 (a - a') (b - b') (c - c') (d - d') (w - w') (f - f') (u - u') (v - v') := by
  unfold V8
  omega
theorem sw_e2 {a b c d w f u v a' b' c' d' w' f' u' v' : Nat} : V8 a b c d w f u v + V8 a' b' c' d' w' f' u' v' = V8 (a + a') (b + b') (c + c') (d + d') (w + w') (f + f') (u + u') (v + v') := by
  unfold V8
  omega
theorem sw_q {y z c : Nat} (h : (y + y / 16) % 16 = c) : (y + y / 16 + 16 * z) % 16 = c := by omega
theorem sw_q2 {y z : Nat} (h : y ≤ 68 ∧ y % 16 ≤ 4) (h2 : z ≤ 68 ∧ z % 16 ≤ 4) : y + y / 16 + 16 * (z % 16) < 256 := by omega
theorem sw_q3 {y : Nat} (h : y ≤ 68 ∧ y % 16 ≤ 4) : y + y / 16 < 256 := by omega
theorem sw_l4 {a b c d : Nat} (h1 : a ≤ 8) (h2 : b ≤ 8) (h3 : c ≤ 8) (h4 : d ≤ 8) : a + b + (c + d) ≤ 32 := by omega
theorem sw_l3 {a b c : Nat} (h1 : a ≤ 8) (h2 : b ≤ 8) (h3 : c ≤ 8) : a + b + c ≤ 32 := by omega
theorem sw_l2 {a b : Nat} (h1 : a ≤ 8) (h2 : b ≤ 8) : a + b ≤ 32 := by omega
theorem sw_l1 {a : Nat} (h1 : a ≤ 8) : a ≤ 32 := by omega
set_option maxHeartbeats 4000000 in
theorem sw_all (x : Nat) (hx : x < 18446744073709551616) : swT x := by
  obtain ⟨a, b, c, d, w, f, u, v, ha, hb, hc, hd, hw, hf, hu, hv, rfl⟩ := sw_ex x hx
  obtain ⟨a1, a2, a3, a4, a5, a6⟩ := byt a ha
  obtain ⟨b1, b2, b3, b4, b5, b6⟩ := byt b hb
  obtain ⟨c1, c2, c3, c4, c5, c6⟩ := byt c hc
  obtain ⟨d1, d2, d3, d4, d5, d6⟩ := byt d hd
  obtain ⟨w1, w2, w3, w4, w5, w6⟩ := byt w hw
  obtain ⟨f1, f2, f3, f4, f5, f6⟩ := byt f hf
  obtain ⟨u1, u2, u3, u4, u5, u6⟩ := byt u hu
  obtain ⟨v1, v2, v3, v4, v5, v6⟩ := byt v hv
  have e1 : sw1 (V8 a b c d w f u v) = V8 (y2 a) (y2 b) (y2 c) (y2 d) (y2 w) (y2 f) (y2 u) (y2 v) := by
    unfold sw1
    rw [sw_1 ha hb hc hd hw hf hu hv]
    exact sw_e1 a1 b1 c1 d1 w1 f1 u1 v1
  have e2 : sw2 (sw1 (V8 a b c d w f u v)) = V8 (y3 a) (y3 b) (y3 c) (y3 d) (y3 w) (y3 f) (y3 u) (y3 v) := by
    rw [e1]
    unfold sw2
    rw [sw_2 a2 b2 c2 d2 w2 f2 u2 v2, sw_2s a2 b2 c2 d2 w2 f2 u2 v2]
    exact sw_e2
  have e2' := sw_3 (⟨a3, a4⟩ : y3 a ≤ 68 ∧ y3 a % 16 ≤ 4) (⟨b3, b4⟩ : y3 b ≤ 68 ∧ y3 b % 16 ≤ 4) (⟨c3, c4⟩ : y3 c ≤ 68 ∧ y3 c % 16 ≤ 4) (⟨d3, d4⟩ : y3 d ≤ 68 ∧ y3 d % 16 ≤ 4) (⟨w3, w4⟩ : y3 w ≤ 68 ∧ y3 w % 16 ≤ 4) (⟨f3, f4⟩ : y3 f ≤ 68 ∧ y3 f % 16 ≤ 4) (⟨u3, u4⟩ : y3 u ≤ 68 ∧ y3 u % 16 ≤ 4) (⟨v3, v4⟩ : y3 v ≤ 68 ∧ y3 v % 16 ≤ 4)
  have e3 : sw3 (sw2 (sw1 (V8 a b c d w f u v))) = V8 (cntF 8 a) (cntF 8 b) (cntF 8 c) (cntF 8 d) (cntF 8 w) (cntF 8 f) (cntF 8 u) (cntF 8 v) := by
    rw [e2]
    unfold sw3
    rw [e2', sw_f (sw_q2 ⟨a3, a4⟩ ⟨b3, b4⟩) (sw_q2 ⟨b3, b4⟩ ⟨c3, c4⟩) (sw_q2 ⟨c3, c4⟩ ⟨d3, d4⟩) (sw_q2 ⟨d3, d4⟩ ⟨w3, w4⟩) (sw_q2 ⟨w3, w4⟩ ⟨f3, f4⟩) (sw_q2 ⟨f3, f4⟩ ⟨u3, u4⟩) (sw_q2 ⟨u3, u4⟩ ⟨v3, v4⟩) (sw_q3 ⟨v3, v4⟩)]
    have qa : (y3 a + y3 a / 16 + 16 * (y3 b % 16)) % 16 = cntF 8 a := sw_q a5
    have qb : (y3 b + y3 b / 16 + 16 * (y3 c % 16)) % 16 = cntF 8 b := sw_q b5
    have qc : (y3 c + y3 c / 16 + 16 * (y3 d % 16)) % 16 = cntF 8 c := sw_q c5
    have qd : (y3 d + y3 d / 16 + 16 * (y3 w % 16)) % 16 = cntF 8 d := sw_q d5
    have qw : (y3 w + y3 w / 16 + 16 * (y3 f % 16)) % 16 = cntF 8 w := sw_q w5
    have qf : (y3 f + y3 f / 16 + 16 * (y3 u % 16)) % 16 = cntF 8 f := sw_q f5
    have qu : (y3 u + y3 u / 16 + 16 * (y3 v % 16)) % 16 = cntF 8 u := sw_q u5
    have qv : (y3 v + y3 v / 16) % 16 = cntF 8 v := v5
    rw [qa, qb, qc, qd, qw, qf, qu, qv]
  have e4 : sw4 (sw3 (sw2 (sw1 (V8 a b c d w f u v)))) = V8 (cntF 8 a + cntF 8 b) (cntF 8 b + cntF 8 c) (cntF 8 c + cntF 8 d) (cntF 8 d + cntF 8 w) (cntF 8 w + cntF 8 f) (cntF 8 f + cntF 8 u) (cntF 8 u + cntF 8 v) (cntF 8 v) := by
    rw [e3]; unfold sw4; exact sw_4 a6 b6 c6 d6 w6 f6 u6 v6
  have e5 : sw5 (sw4 (sw3 (sw2 (sw1 (V8 a b c d w f u v))))) = V8 (cntF 8 a + cntF 8 b + (cntF 8 c + cntF 8 d)) (cntF 8 b + cntF 8 c + (cntF 8 d + cntF 8 w)) (cntF 8 c + cntF 8 d + (cntF 8 w + cntF 8 f)) (cntF 8 d + cntF 8 w + (cntF 8 f + cntF 8 u)) (cntF 8 w + cntF 8 f + (cntF 8 u + cntF 8 v)) (cntF 8 f + cntF 8 u + (cntF 8 v)) (cntF 8 u + cntF 8 v) (cntF 8 v) := by
    rw [e4]; unfold sw5; exact sw_5 (Nat.add_le_add a6 b6) (Nat.add_le_add b6 c6) (Nat.add_le_add c6 d6) (Nat.add_le_add d6 w6) (Nat.add_le_add w6 f6) (Nat.add_le_add f6 u6) (Nat.add_le_add u6 v6) (Nat.le_trans v6 (by decide))
  have e6 : sw6 (sw5 (sw4 (sw3 (sw2 (sw1 (V8 a b c d w f u v)))))) = V8 (cntF 8 a + cntF 8 b + (cntF 8 c + cntF 8 d) + (cntF 8 w + cntF 8 f + (cntF 8 u + cntF 8 v))) (cntF 8 b + cntF 8 c + (cntF 8 d + cntF 8 w) + (cntF 8 f + cntF 8 u + (cntF 8 v))) (cntF 8 c + cntF 8 d + (cntF 8 w + cntF 8 f) + (cntF 8 u + cntF 8 v)) (cntF 8 d + cntF 8 w + (cntF 8 f + cntF 8 u) + (cntF 8 v)) (cntF 8 w + cntF 8 f + (cntF 8 u + cntF 8 v)) (cntF 8 f + cntF 8 u + (cntF 8 v)) (cntF 8 u + cntF 8 v) (cntF 8 v) := by
    rw [e5]; unfold sw6; exact sw_6 (sw_l4 a6 b6 c6 d6) (sw_l4 b6 c6 d6 w6) (sw_l4 c6 d6 w6 f6) (sw_l4 d6 w6 f6 u6) (sw_l4 w6 f6 u6 v6) (sw_l3 f6 u6 v6) (sw_l2 u6 v6) (sw_l1 v6)
  have ec := sw_cnt ha hb hc hd hw hf hu hv
  have z1 := sw_1 ha hb hc hd hw hf hu hv
  obtain ⟨t4, t5, t6, t7, t8⟩ := sw_fin a6 b6 c6 d6 w6 f6 u6 v6
  obtain ⟨t2, t3⟩ := sw_fin3 (⟨a3, a4⟩ : y3 a ≤ 68 ∧ y3 a % 16 ≤ 4) (⟨b3, b4⟩ : y3 b ≤ 68 ∧ y3 b % 16 ≤ 4) (⟨c3, c4⟩ : y3 c ≤ 68 ∧ y3 c % 16 ≤ 4) (⟨d3, d4⟩ : y3 d ≤ 68 ∧ y3 d % 16 ≤ 4) (⟨w3, w4⟩ : y3 w ≤ 68 ∧ y3 w % 16 ≤ 4) (⟨f3, f4⟩ : y3 f ≤ 68 ∧ y3 f % 16 ≤ 4) (⟨u3, u4⟩ : y3 u ≤ 68 ∧ y3 u % 16 ≤ 4) (⟨v3, v4⟩ : y3 v ≤ 68 ∧ y3 v % 16 ≤ 4)
  have t1 := sw_fin1 a1 b1 c1 d1 w1 f1 u1 v1
  unfold swT
  rw [e6, e5, e4, e2, e2', ec, z1]
  exact ⟨t1, t2, t3, t4, t5, t6, t7, t8⟩
def cntL (x : Int64) : Nat := cntF 64 x.toBitVec.toNat
def bl1 (x : Int64) : Int64 := x - (ush64 x (nI 1) &&& 6148914691236517205)
def bl2 (a : Int64) : Int64 := (a &&& 3689348814741910323) + (ush64 a (nI 2) &&& 3689348814741910323)
def bl3 (b : Int64) : Int64 := b + ush64 b (nI 4) &&& 1085102592571150095
def bl4 (c : Int64) : Int64 := c + ush64 c (nI 8)
def bl5 (e : Int64) : Int64 := e + ush64 e (nI 16)
def bl6 (f : Int64) : Int64 := f + ush64 f (nI 32)
def bcL (x : Int64) : Int32 := (bl6 (bl5 (bl4 (bl3 (bl2 (bl1 x)))))).toInt32 &&& nI 127
theorem tn_ush (x : Int64) {k : Nat} (hk : k < 64) : (ush64 x (nI k)).toBitVec.toNat = x.toBitVec.toNat / 2 ^ k := by
  rw [ush_bv x hk, BitVec.toNat_ushiftRight, Nat.shiftRight_eq_div_pow]
theorem tn_and (x y : Int64) : (x &&& y).toBitVec.toNat = x.toBitVec.toNat &&& y.toBitVec.toNat := by
  rw [Int64.toBitVec_and, BitVec.toNat_and]
theorem tn_add (x y : Int64) (h : x.toBitVec.toNat + y.toBitVec.toNat < 18446744073709551616) : (x + y).toBitVec.toNat = x.toBitVec.toNat + y.toBitVec.toNat := by
  rw [Int64.toBitVec_add, BitVec.toNat_add]
  exact Nat.mod_eq_of_lt h
theorem tn_sub (x y : Int64) (h : y.toBitVec.toNat ≤ x.toBitVec.toNat) : (x - y).toBitVec.toNat = x.toBitVec.toNat - y.toBitVec.toNat := by
  rw [Int64.toBitVec_sub, BitVec.toNat_sub]
  have h1 := x.toBitVec.isLt
  have h2 := y.toBitVec.isLt
  omega
theorem tn_lt (x : Int64) : x.toBitVec.toNat < 18446744073709551616 := x.toBitVec.isLt
theorem and127 (u : Int64) {k : Nat} (h : u.toBitVec.toNat % 128 = k) : u.toInt32 &&& nI 127 = nI k := by
  apply Int32.toBitVec_inj.mp
  apply BitVec.eq_of_toNat_eq
  rw [Int32.toBitVec_and, BitVec.toNat_and]
  have e1 : (nI 127).toBitVec.toNat = 127 := by decide
  have e2 : u.toInt32.toBitVec.toNat = u.toBitVec.toNat % 4294967296 := by
    show (u.toBitVec.signExtend 32).toNat = _
    rw [BitVec.signExtend_eq_setWidth_of_le _ (by decide), BitVec.toNat_setWidth]
  have e3 : (nI k).toBitVec.toNat = k := by
    have : k < 128 := by omega
    have q : ∀ j, j < 128 → (nI j).toBitVec.toNat = j := by decide +kernel
    exact q k this
  rw [e1, e2, e3]
  have e4 := Nat.and_two_pow_sub_one_eq_mod (u.toBitVec.toNat % 4294967296) 7
  have e5 : (2 : Nat) ^ 7 - 1 = 127 := by decide
  rw [e5] at e4
  rw [e4]
  omega
theorem bcL_eq (x : Int64) : bcL x = nI (cntL x) := by
  obtain ⟨s1, s2, s3, s4, s5, s6, s7, -⟩ := sw_all x.toBitVec.toNat (tn_lt x)
  have m5 : (6148914691236517205 : Int64).toBitVec.toNat = 6148914691236517205 := by decide
  have m3 : (3689348814741910323 : Int64).toBitVec.toNat = 3689348814741910323 := by decide
  have mf : (1085102592571150095 : Int64).toBitVec.toNat = 1085102592571150095 := by decide
  unfold bcL
  apply and127
  have a1 : (bl1 x).toBitVec.toNat = sw1 x.toBitVec.toNat := by
    unfold bl1
    rw [tn_sub _ _ (by rw [tn_and, tn_ush x (by decide), m5]; exact s1), tn_and, tn_ush x (by decide), m5]; rfl
  generalize bl1 x = a at a1 ⊢
  have a2 : (bl2 a).toBitVec.toNat = sw2 (sw1 x.toBitVec.toNat) := by
    unfold bl2
    rw [tn_add _ _ (by rw [tn_and, tn_and, tn_ush a (by decide), m3, a1]; exact s2), tn_and, tn_and, tn_ush a (by decide), m3, a1]; rfl
  generalize bl2 a = b at a2 ⊢
  have a3 : (bl3 b).toBitVec.toNat = sw3 (sw2 (sw1 x.toBitVec.toNat)) := by
    unfold bl3
    rw [tn_and, tn_add _ _ (by rw [tn_ush b (by decide), a2]; exact s3), tn_ush b (by decide), mf, a2]; rfl
  generalize bl3 b = c at a3 ⊢
  have a4 : (bl4 c).toBitVec.toNat = sw4 (sw3 (sw2 (sw1 x.toBitVec.toNat))) := by
    unfold bl4
    rw [tn_add _ _ (by rw [tn_ush c (by decide), a3]; exact s4), tn_ush c (by decide), a3]; rfl
  generalize bl4 c = e at a4 ⊢
  have a5 : (bl5 e).toBitVec.toNat = sw5 (sw4 (sw3 (sw2 (sw1 x.toBitVec.toNat)))) := by
    unfold bl5
    rw [tn_add _ _ (by rw [tn_ush e (by decide), a4]; exact s5), tn_ush e (by decide), a4]; rfl
  generalize bl5 e = f at a5 ⊢
  have a6 : (bl6 f).toBitVec.toNat = sw6 (sw5 (sw4 (sw3 (sw2 (sw1 x.toBitVec.toNat))))) := by
    unfold bl6
    rw [tn_add _ _ (by rw [tn_ush f (by decide), a5]; exact s6), tn_ush f (by decide), a5]; rfl
  rw [a6]
  exact s7
theorem cntL_le (x : Int64) : cntL x ≤ 64 := (sw_all x.toBitVec.toNat (tn_lt x)).2.2.2.2.2.2.2
theorem cntL_0 {x : Int64} (h : x = 0) : cntL x = 0 := by subst h; decide +kernel
theorem cntL_down {x : Int64} (h : ¬ x = 0) : cntL (x &&& x - 1) + 1 = cntL x := by
  have h0 : 0 < x.toBitVec.toNat := by
    refine Nat.pos_of_ne_zero (fun z => h ?_)
    apply Int64.toBitVec_inj.mp
    apply BitVec.eq_of_toNat_eq
    rw [z]; decide
  have e1 : (1 : Int64).toBitVec.toNat = 1 := by decide
  unfold cntL
  rw [tn_and, tn_sub _ _ (by rw [e1]; omega), e1]
  exact cnt_down 64 _ h0 (tn_lt x)
def bi1 (x : Int32) : Int32 := x - (ush32 x (nI 1) &&& 1431655765)
def bi2 (a : Int32) : Int32 := (a &&& 858993459) + (ush32 a (nI 2) &&& 858993459)
def bi3 (b : Int32) : Int32 := b + ush32 b (nI 4) &&& 252645135
def bi4 (c : Int32) : Int32 := c + ush32 c (nI 8)
def bi5 (e : Int32) : Int32 := e + ush32 e (nI 16)
def bcI (x : Int32) : Int32 := bi5 (bi4 (bi3 (bi2 (bi1 x)))) &&& nI 63
theorem bcI_eq : ∀ k, k < 256 → bcI (nI k) = nI (cntF 8 k) ∧ cntL (nI k).toInt64 = cntF 8 k := by decide +kernel

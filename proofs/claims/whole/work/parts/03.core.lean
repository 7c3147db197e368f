/-! the plane walk: one heap of own cells, at the addresses B, B + 1 .. behind what stood at the law's start -/
abbrev Mt : Type := MethodName × ByteArray × Nat × Option FieldType
def Gw (w : Cond) : Prop := w ∈ lw_tbl ∧ goodWord w = true
def lw_good : List Cond := lw_tbl.filter goodWord
theorem Gw.mem {w : Cond} (h : Gw w) : w ∈ lw_good := List.mem_filter.mpr h
theorem lw_good_of {w : Cond} (h : w ∈ lw_good) : Gw w := List.mem_filter.mp h
/-- B, the classes' numbers, the array classes, the constants' addresses, the script: its address, length, ints -/
abbrev Gl : Type := Nat × va_G × (Nat → ClassId) × (Nat → Nat) × Nat × Nat × (Nat → Int32)
abbrev AH : Type := List va_E
abbrev gA (g : Gl) : Nat → Prop := fun q => g.1 ≤ q
abbrev gD (g : Gl) : va_G := g.2.1
abbrev gC (g : Gl) : Nat → ClassId := g.2.2.1
abbrev gK (g : Gl) : Nat → Nat := g.2.2.2.1
def gT (g : Gl) : List (ClassId × FieldType) := [(gC g 0, .int), (gC g 1, .long), (gC g 2, .object RX0), (gC g 3, .object RX5), (gC g 4, .object RX3), (gC g 5, .object RX4)]
/-- an object, an array of ints, of longs, of references -/
abbrev ob (ci : Nat) (fs : List Value) : va_E := .inr (ci, fs)
abbrev ia (g : Gl) (n : Nat) (f : Nat → Int32) : va_E := .inl (gC g 0, n, .inl f)
abbrev la (g : Gl) (n : Nat) (f : Nat → Int64) : va_E := .inl (gC g 1, n, .inr (.inl f))
abbrev ra (g : Gl) (t n : Nat) (f : Nat → Option Nat) : va_E := .inl (gC g t, n, .inr (.inr (.inr (.inr f))))
def wsF (b : Nat) : AH → va_W
  | [] => []
  | c :: h => (b, c) :: wsF (b + 1) h
theorem wsF_get (h : AH) : ∀ (b k : Nat), (wsF b h)[k]? = h[k]?.map (fun c => (b + k, c)) := by
  induction h with
  | nil => intro b k; rfl
  | cons c h ih =>
    intro b k
    cases k with
    | zero => rfl
    | succ k =>
      show (wsF (b + 1) h)[k]? = (h[k]?).map (fun c => (b + (k + 1), c))
      rw [ih (b + 1) k]
      have e : b + 1 + k = b + (k + 1) := by omega
      rw [e]
theorem wsF_at {h : AH} {b k : Nat} {c : va_E} (e : h[k]? = some c) : (wsF b h)[k]? = some (b + k, c) := by rw [wsF_get, e]; rfl
theorem wsF_set (h : AH) : ∀ (b k : Nat) (c : va_E), (wsF b h).set k (b + k, c) = wsF b (h.set k c) := by
  induction h with
  | nil => intro b k c; rfl
  | cons c0 h ih =>
    intro b k c
    cases k with
    | zero => rfl
    | succ k =>
      show (b, c0) :: (wsF (b + 1) h).set k (b + (k + 1), c) = (b, c0) :: wsF (b + 1) (h.set k c)
      have e : b + (k + 1) = b + 1 + k := by omega
      rw [e, ih (b + 1) k c]
theorem wsF_app (h : AH) : ∀ (b : Nat) (c : va_E), wsF b (h ++ [c]) = wsF b h ++ [(b + h.length, c)] := by
  induction h with
  | nil => intro b c; rfl
  | cons c0 h ih =>
    intro b c
    show (b, c0) :: wsF (b + 1) (h ++ [c]) = (b, c0) :: (wsF (b + 1) h ++ [(b + (h.length + 1), c)])
    have e : b + (h.length + 1) = b + 1 + h.length := by omega
    rw [ih (b + 1) c, e]
theorem wsF_D (b : Nat) (h : AH) : va_D (fun q : Nat => b ≤ q) (wsF b h) := by
  refine ⟨fun i j p q hi hj e => ?_, fun k q hk => ?_⟩
  · rw [wsF_get] at hi hj
    cases hi' : h[i]? with
    | none => rw [hi'] at hi; cases hi
    | some ci =>
      cases hj' : h[j]? with
      | none => rw [hj'] at hj; cases hj
      | some cj =>
        rw [hi'] at hi; rw [hj'] at hj
        cases hi; cases hj
        have e2 : b + i = b + j := e
        omega
  · rw [wsF_get] at hk
    cases hk' : h[k]? with
    | none => rw [hk'] at hk; cases hk
    | some ck =>
      rw [hk'] at hk
      cases hk
      show b ≤ b + k
      omega
/-- the machine's heap holds the own cells, and nothing stands behind them -/
def Rp (g : Gl) (h : AH) (H : Heap) : Prop := va_P (gD g) vwCl (wsF g.1 h) H ∧ H.size = g.1 + h.length
theorem Rp_ge {g : Gl} {h : AH} {H : Heap} (hP : va_P (gD g) vwCl (wsF g.1 h) H) (h0 : 0 < h.length) : g.1 + h.length ≤ H.size := by
  obtain ⟨c, hc⟩ : ∃ c, h[h.length - 1]? = some c := ⟨h[h.length - 1], List.getElem?_eq_getElem (by omega)⟩
  have := (hP _ _ (wsF_at hc)).lt
  have e : (g.1 + (h.length - 1), c).1 = g.1 + (h.length - 1) := rfl
  rw [e] at this
  omega

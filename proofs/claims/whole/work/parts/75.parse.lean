/-! words of a tape as a list; the reference's way through it, and the class's: they agree -/
abbrev Tkn : Type := Nat × Nat × Nat × Nat
abbrev Stq : Type := Nat × Nat
abbrev Rsl : Type := Bool × List Tkn × List Stq
def rkc (c : Nat) : Nat := if c = 124 then 1 else if c = 38 then 2 else if c = 60 ∨ c = 61 ∨ c = 62 then 3 else if c = 43 ∨ c = 45 then 4 else if c = 42 ∨ c = 47 then 5 else 0
def rk (t : Tkn) : Nat := if t.2.2.1 = 2 then rkc t.2.2.2 else 0
theorem rkc_le (c : Nat) : rkc c ≤ 5 := by unfold rkc; (repeat' split) <;> omega
theorem rk_le (t : Tkn) : rk t ≤ 5 := by unfold rk; split; exact rkc_le _; omega
theorem rk_k {t : Tkn} (h : ¬ rk t = 0) : t.2.2.1 = 2 ∧ rk t = rkc t.2.2.2 ∧ ¬ t.2.2.2 = 41 ∧ ¬ t.2.2.2 = 33 := by
  unfold rk at h ⊢
  by_cases e : t.2.2.1 = 2
  · rw [if_pos e] at h ⊢
    refine ⟨e, rfl, fun z => h ?_, fun z => h ?_⟩
    · rw [z]; rfl
    · rw [z]; rfl
  · rw [if_neg e] at h; exact absurd rfl h
def prB (x : Rsl) : Rsl := if x.1 = true then (true, x.2.1, x.2.2 ++ [(2, 33)]) else (false, x.2.1, [])
def prR (x : Rsl) : Rsl := if x.1 = true then (match x.2.1 with
  | [] => (false, [], [])
  | t :: r => if t.2.2.1 = 2 ∧ t.2.2.2 = 41 then (true, r, x.2.2) else (false, t :: r, [])) else (false, x.2.1, [])
def prP (q : Nat → List Tkn → Nat → Nat → Rsl) (ts : List Tkn) (d u : Nat) : Rsl := match ts with
  | [] => (false, [], [])
  | t :: r => if t.2.2.1 < 2 then (true, r, [(t.2.2.1, t.2.2.2)]) else if t.2.2.1 = 2 ∧ t.2.2.2 = 33 ∧ u < 8 then prB (q 6 r d (u + 1)) else if t.2.2.1 = 2 ∧ t.2.2.2 = 40 ∧ d < 8 then prR (q 1 r (d + 1) u) else (false, t :: r, [])
def prE (q : Nat → List Tkn → Nat → Nat → Rsl) (m : Nat) (ts : List Tkn) (d u : Nat) : Rsl := if (q (m + 1) ts d u).1 = true then ((q (10 + m) (q (m + 1) ts d u).2.1 d u).1, (q (10 + m) (q (m + 1) ts d u).2.1 d u).2.1, (q (m + 1) ts d u).2.2 ++ (q (10 + m) (q (m + 1) ts d u).2.1 d u).2.2) else (false, (q (m + 1) ts d u).2.1, [])
def prL (q : Nat → List Tkn → Nat → Nat → Rsl) (l : Nat) (ts : List Tkn) (d u : Nat) : Rsl := match ts with
  | [] => (true, [], [])
  | t :: r => if rk t = l then (if (q (l + 1) r d u).1 = true then (if l = 3 then (true, (q (l + 1) r d u).2.1, (q (l + 1) r d u).2.2 ++ [(2, t.2.2.2)]) else ((q (10 + l) (q (l + 1) r d u).2.1 d u).1, (q (10 + l) (q (l + 1) r d u).2.1 d u).2.1, (q (l + 1) r d u).2.2 ++ (2, t.2.2.2) :: (q (10 + l) (q (l + 1) r d u).2.1 d u).2.2)) else (false, (q (l + 1) r d u).2.1, [])) else (true, t :: r, [])
def pr : Nat → Nat → List Tkn → Nat → Nat → Rsl
  | 0, _, ts, _, _ => (false, ts, [])
  | f + 1, m, ts, d, u => if m = 6 then prP (pr f) ts d u else if m < 6 then prE (pr f) m ts d u else prL (pr f) (m - 10) ts d u
/-- the class's row of open signs -/
def clo (r : Nat) : List Nat → List Stq → List Nat × List Stq
  | [], A => ([], A)
  | c :: σ, A => if r < rkc c then clo r σ (A ++ [(2, c)]) else (c :: σ, A)
def bng : List Nat → List Stq → Nat → List Nat × List Stq × Nat
  | [], A, k => ([], A, k)
  | c :: σ, A, k => if c = 33 then bng σ (A ++ [(2, 33)]) (k - 1) else (c :: σ, A, k)
abbrev Cfq : Type := List Nat × Bool × List Stq × Nat × Nat
def tkP (σ : List Nat) (A : List Stq) (br nt : Nat) (t : Tkn) : Option Cfq := if t.2.2.1 < 2 then some ((bng σ (A ++ [(t.2.2.1, t.2.2.2)]) nt).1, false, (bng σ (A ++ [(t.2.2.1, t.2.2.2)]) nt).2.1, br, (bng σ (A ++ [(t.2.2.1, t.2.2.2)]) nt).2.2) else if t.2.2.1 = 2 ∧ t.2.2.2 = 40 ∧ br < 8 then some (40 :: σ, true, A, br + 1, nt) else if t.2.2.1 = 2 ∧ t.2.2.2 = 33 ∧ nt < 8 then some (33 :: σ, true, A, br, nt + 1) else none
def tkJ (σ : List Nat) (A : List Stq) (br nt : Nat) (t : Tkn) : Option Cfq := if t.2.2.1 = 2 ∧ t.2.2.2 = 41 ∧ 0 < br then some ((bng (clo 0 σ A).1.tail (clo 0 σ A).2 nt).1, false, (bng (clo 0 σ A).1.tail (clo 0 σ A).2 nt).2.1, br - 1, (bng (clo 0 σ A).1.tail (clo 0 σ A).2 nt).2.2) else if rk t = 0 then none else if rk t = 3 then (if rkc ((clo 3 σ A).1.headD 0) = 3 then none else some (t.2.2.2 :: (clo 3 σ A).1, true, (clo 3 σ A).2, br, nt)) else some (t.2.2.2 :: (clo (rk t - 1) σ A).1, true, (clo (rk t - 1) σ A).2, br, nt)
def tkN (c : Cfq) (t : Tkn) : Option Cfq := if c.2.1 = true then tkP c.1 c.2.2.1 c.2.2.2.1 c.2.2.2.2 t else tkJ c.1 c.2.2.1 c.2.2.2.1 c.2.2.2.2 t
def rnM : Cfq → List Tkn → Option (List Stq) × List Tkn
  | c, [] => if c.2.1 = true ∨ 0 < c.2.2.2.1 then (none, []) else (some (clo 0 c.1 c.2.2.1).2, [])
  | c, t :: r => match tkN c t with
    | none => (none, t :: r)
    | some c' => rnM c' r
theorem rn_n {c : Cfq} {t : Tkn} {r : List Tkn} (h : tkN c t = none) : rnM c (t :: r) = (none, t :: r) := by rw [rnM, h]
theorem rn_s {c c' : Cfq} {t : Tkn} {r : List Tkn} (h : tkN c t = some c') : rnM c (t :: r) = rnM c' r := by rw [rnM, h]
theorem clo_clo {r r' : Nat} (h : r ≤ r') : ∀ (σ : List Nat) (A : List Stq), clo r (clo r' σ A).1 (clo r' σ A).2 = clo r σ A := by
  intro σ
  induction σ with
  | nil => intro A; rfl
  | cons c σ ih =>
    intro A
    rw [clo]
    by_cases e : r' < rkc c
    · rw [if_pos e, ih, clo, if_pos (by omega)]
    · rw [if_neg e]
/-- nothing on top that ranks as high as m, and no ! -/
def gdS (m : Nat) (σ : List Nat) : Prop := ∀ c τ, σ = c :: τ → rkc c < m ∧ ¬ c = 33
theorem gd_clo {m r : Nat} {σ : List Nat} (h : gdS m σ) (hr : m ≤ r + 1) (A : List Stq) : clo r σ A = (σ, A) := by
  cases σ with
  | nil => rfl
  | cons c σ => rw [clo, if_neg (by have := (h c σ rfl).1; omega)]
theorem gd_bng {m : Nat} {σ : List Nat} (h : gdS m σ) (A : List Stq) (k : Nat) : bng σ A k = (σ, A, k) := by
  cases σ with
  | nil => rfl
  | cons c σ => rw [bng, if_neg (h c σ rfl).2]
theorem gd_hd {m : Nat} {σ : List Nat} (h : gdS m σ) (hm : 0 < m) : rkc (σ.headD 0) < m := by
  cases σ with
  | nil => exact hm
  | cons c σ => exact (h c σ rfl).1
theorem gd_up {m m' : Nat} {σ : List Nat} (h : gdS m σ) (hm : m ≤ m') : gdS m' σ := fun c τ e => ⟨Nat.lt_of_lt_of_le (h c τ e).1 hm, (h c τ e).2⟩
def Rr (m : Nat) (τ : List Nat) (B : List Stq) (ts : List Tkn) : Prop := ∀ t r, ts = t :: r → rk t < m ∨ (rk t = 3 ∧ m ≤ 3 ∧ rkc ((clo 3 τ B).1.headD 0) = 3)
def nee (m n : Nat) : Nat := if m ≤ 6 then 8 * n + 8 - m else 8 * n + 2
def clmP (x : Rsl) (ts : List Tkn) (d u : Nat) : Prop := ∀ (σ : List Nat) (A : List Stq), (x.1 = true → rnM (σ, true, A, d, u) ts = rnM ((bng σ (A ++ x.2.2) u).1, false, (bng σ (A ++ x.2.2) u).2.1, d, (bng σ (A ++ x.2.2) u).2.2) x.2.1 ∧ x.2.1.length < ts.length) ∧ (x.1 = false → rnM (σ, true, A, d, u) ts = (none, x.2.1))
def clmE (m : Nat) (x : Rsl) (ts : List Tkn) (d u : Nat) : Prop := ∀ (σ : List Nat) (A : List Stq), gdS m σ → (x.1 = true → ∃ τ B, rnM (σ, true, A, d, u) ts = rnM (τ, false, B, d, u) x.2.1 ∧ clo (m - 1) τ B = (σ, A ++ x.2.2) ∧ Rr m τ B x.2.1 ∧ x.2.1.length < ts.length) ∧ (x.1 = false → rnM (σ, true, A, d, u) ts = (none, x.2.1))
def clmL (l : Nat) (x : Rsl) (ts : List Tkn) (d u : Nat) : Prop := ∀ (σ : List Nat) (Z : List Stq) (τ : List Nat) (B : List Stq), gdS l σ → clo (l - 1) τ B = (σ, Z) → (l = 3 → clo 3 τ B = (σ, Z)) → Rr (l + 1) τ B ts → (x.1 = true → ∃ τ' B', rnM (τ, false, B, d, u) ts = rnM (τ', false, B', d, u) x.2.1 ∧ clo (l - 1) τ' B' = (σ, Z ++ x.2.2) ∧ Rr l τ' B' x.2.1 ∧ x.2.1.length ≤ ts.length) ∧ (x.1 = false → rnM (τ, false, B, d, u) ts = (none, x.2.1))
theorem P_E {x : Rsl} {ts : List Tkn} {d u : Nat} (h : clmP x ts d u) : clmE 6 x ts d u := by
  intro σ A hg
  obtain ⟨h1, h2⟩ := h σ A
  refine ⟨fun e => ?_, h2⟩
  obtain ⟨a, b⟩ := h1 e
  rw [gd_bng hg] at a
  exact ⟨σ, A ++ x.2.2, a, gd_clo hg (by omega) _, fun t r _ => Or.inl (by have := rk_le t; omega), b⟩
theorem prP_ok {q : Nat → List Tkn → Nat → Nat → Rsl} {ts : List Tkn} {d u : Nat} (h6 : ∀ t r, ts = t :: r → ∀ d u, clmP (q 6 r d u) r d u) (h1 : ∀ t r, ts = t :: r → ∀ d u, clmE 1 (q 1 r d u) r d u) : clmP (prP q ts d u) ts d u := by
  intro σ A
  cases ts with
  | nil => exact ⟨fun e => (by cases e), fun _ => by rw [rnM, if_pos (Or.inl rfl)]; rfl⟩
  | cons t r =>
    unfold prP
    dsimp only
    by_cases k1 : t.2.2.1 < 2
    · rw [if_pos k1]
      refine ⟨fun _ => ⟨?_, Nat.lt_succ_self _⟩, fun e => by cases e⟩
      exact rn_s (by unfold tkN tkP; rw [if_pos rfl, if_pos k1])
    · rw [if_neg k1]
      by_cases k2 : t.2.2.1 = 2 ∧ t.2.2.2 = 33 ∧ u < 8
      · rw [if_pos k2]
        have es : tkN (σ, true, A, d, u) t = some (33 :: σ, true, A, d, u + 1) := by
          unfold tkN tkP
          rw [if_pos rfl, if_neg k1, if_neg (fun z => absurd (z.2.1.symm.trans k2.2.1) (by decide)), if_pos k2]
        obtain ⟨g1, g2⟩ := h6 t r rfl d (u + 1) (33 :: σ) A
        unfold prB
        by_cases e : (q 6 r d (u + 1)).1 = true
        · rw [if_pos e]
          obtain ⟨a, b⟩ := g1 e
          refine ⟨fun _ => ⟨?_, Nat.lt_succ_of_lt b⟩, fun z => by cases z⟩
          rw [rn_s es, a, bng, if_pos rfl, List.append_assoc, Nat.add_sub_cancel]
        · rw [if_neg e]
          refine ⟨fun z => (by cases z), fun _ => ?_⟩
          rw [rn_s es]
          exact g2 (by simpa using e)
      · rw [if_neg k2]
        by_cases k3 : t.2.2.1 = 2 ∧ t.2.2.2 = 40 ∧ d < 8
        · rw [if_pos k3]
          have es : tkN (σ, true, A, d, u) t = some (40 :: σ, true, A, d + 1, u) := by
            unfold tkN tkP
            rw [if_pos rfl, if_neg k1, if_pos k3]
          obtain ⟨g1, g2⟩ := h1 t r rfl (d + 1) u (40 :: σ) A (fun c τ e => by cases e; exact ⟨by decide, by decide⟩)
          unfold prR
          by_cases e : (q 1 r (d + 1) u).1 = true
          · rw [if_pos e]
            obtain ⟨τ, B, a1, a2, a3, a4⟩ := g1 e
            cases hr : (q 1 r (d + 1) u).2.1 with
            | nil =>
              rw [hr] at a1
              refine ⟨fun z => (by cases z), fun _ => ?_⟩
              rw [rn_s es, a1, rnM, if_pos (Or.inr (Nat.succ_pos d))]
            | cons t' r' =>
              rw [hr] at a1 a3 a4
              dsimp only
              by_cases k4 : t'.2.2.1 = 2 ∧ t'.2.2.2 = 41
              · rw [if_pos k4]
                refine ⟨fun _ => ⟨?_, ?_⟩, fun z => by cases z⟩
                · rw [rn_s es, a1]
                  have a2' : clo 0 τ B = (40 :: σ, A ++ (q 1 r (d + 1) u).2.2) := a2
                  exact rn_s (by unfold tkN tkJ; rw [if_neg (fun z : false = true => by cases z), if_pos ⟨k4.1, k4.2, Nat.succ_pos d⟩, a2']; rfl)
                · simp only [List.length_cons] at a4 ⊢; omega
              · rw [if_neg k4]
                refine ⟨fun z => (by cases z), fun _ => ?_⟩
                rw [rn_s es, a1]
                refine rn_n ?_
                unfold tkN tkJ
                rw [if_neg (fun z : false = true => by cases z), if_neg (fun z => k4 ⟨z.1, z.2.1⟩)]
                rcases a3 t' r' rfl with z | ⟨z1, -, z3⟩
                · rw [if_pos (by omega)]
                · rw [if_neg (by omega), if_pos z1, if_pos z3]
          · rw [if_neg e]
            refine ⟨fun z => (by cases z), fun _ => ?_⟩
            rw [rn_s es]
            exact g2 (by simpa using e)
        · rw [if_neg k3]
          refine ⟨fun z => (by cases z), fun _ => ?_⟩
          refine rn_n ?_
          unfold tkN tkP
          rw [if_pos rfl, if_neg k1, if_neg k3, if_neg k2]
theorem prE_ok {q : Nat → List Tkn → Nat → Nat → Rsl} {m : Nat} {ts : List Tkn} {d u : Nat} (hm : 1 ≤ m) (h1 : clmE (m + 1) (q (m + 1) ts d u) ts d u) (h2 : ∀ ts', ts'.length < ts.length → clmL m (q (10 + m) ts' d u) ts' d u) : clmE m (prE q m ts d u) ts d u := by
  intro σ A hg
  obtain ⟨a1, a2⟩ := h1 σ A (gd_up hg (by omega))
  unfold prE
  by_cases e : (q (m + 1) ts d u).1 = true
  · rw [if_pos e]
    obtain ⟨τ, B, b1, b2, b3, b4⟩ := a1 e
    rw [Nat.add_sub_cancel] at b2
    have c1 : clo (m - 1) τ B = (σ, A ++ (q (m + 1) ts d u).2.2) := by
      rw [← clo_clo (show m - 1 ≤ m by omega), b2]
      exact gd_clo hg (by omega) _
    obtain ⟨g1, g2⟩ := h2 _ b4 σ _ τ B hg c1 (fun e3 => by subst e3; exact b2) b3
    refine ⟨fun e2 => ?_, fun e2 => by rw [b1]; exact g2 e2⟩
    obtain ⟨τ', B', x1, x2, x3, x4⟩ := g1 e2
    exact ⟨τ', B', b1.trans x1, by rw [x2, List.append_assoc], x3, Nat.lt_of_le_of_lt x4 b4⟩
  · rw [if_neg e]
    exact ⟨fun z => (by cases z), fun _ => a2 (by simpa using e)⟩
theorem prL_ok {q : Nat → List Tkn → Nat → Nat → Rsl} {l : Nat} {ts : List Tkn} {d u : Nat} (hl : 1 ≤ l) (hl5 : l ≤ 5) (h1 : ∀ t r, ts = t :: r → clmE (l + 1) (q (l + 1) r d u) r d u) (h2 : ∀ ts', ts'.length < ts.length → clmL l (q (10 + l) ts' d u) ts' d u) : clmL l (prL q l ts d u) ts d u := by
  intro σ Z τ B hg hc hc3 hR
  cases ts with
  | nil => exact ⟨fun _ => ⟨τ, B, rfl, by rw [hc]; unfold prL; rw [List.append_nil], fun t r e => (by cases e), Nat.le_refl _⟩, fun e => by cases e⟩
  | cons t r =>
    unfold prL
    dsimp only
    by_cases k : rk t = l
    · rw [if_pos k]
      obtain ⟨t1, t2, t3, t4⟩ := rk_k (t := t) (by omega)
      have es : tkN (τ, false, B, d, u) t = some (t.2.2.2 :: σ, true, Z, d, u) := by
        unfold tkN tkJ
        rw [if_neg (fun z : false = true => by cases z), if_neg (fun z => t3 z.2.1), if_neg (by omega)]
        by_cases k3 : rk t = 3
        · have c3 := hc3 (by omega)
          rw [if_pos k3]
          dsimp only
          rw [c3]
          dsimp only
          rw [if_neg (by have := gd_hd hg (by omega); omega)]
        · rw [if_neg k3, k]
          dsimp only
          rw [hc]
      have hg2 : gdS (l + 1) (t.2.2.2 :: σ) := fun c τ e => by cases e; exact ⟨by omega, t4⟩
      obtain ⟨a1, a2⟩ := h1 t r rfl (t.2.2.2 :: σ) Z hg2
      by_cases e : (q (l + 1) r d u).1 = true
      · rw [if_pos e]
        obtain ⟨τ2, B2, b1, b2, b3, b4⟩ := a1 e
        rw [Nat.add_sub_cancel] at b2
        have c1 : clo (l - 1) τ2 B2 = (σ, Z ++ (q (l + 1) r d u).2.2 ++ [(2, t.2.2.2)]) := by
          rw [← clo_clo (show l - 1 ≤ l by omega), b2, clo, if_pos (by omega)]
          exact gd_clo hg (by omega) _
        by_cases k3 : l = 3
        · rw [if_pos k3]
          refine ⟨fun _ => ⟨τ2, B2, (rn_s es).trans b1, by rw [c1, List.append_assoc], fun t' r' e' => ?_, ?_⟩, fun z => by cases z⟩
          · rcases b3 t' r' e' with z | ⟨z1, z2, z3⟩
            · by_cases z3 : rk t' = 3
              · subst k3
                exact Or.inr ⟨z3, Nat.le_refl _, by rw [b2]; show rkc t.2.2.2 = 3; omega⟩
              · exact Or.inl (by omega)
            · omega
          · simp only [List.length_cons]; omega
        · rw [if_neg k3]
          obtain ⟨g1, g2⟩ := h2 _ (show (q (l + 1) r d u).2.1.length < (t :: r).length by simp only [List.length_cons]; omega) σ _ τ2 B2 hg c1 (fun e3 => absurd e3 k3) b3
          refine ⟨fun e2 => ?_, fun e2 => by rw [rn_s es, b1]; exact g2 e2⟩
          obtain ⟨τ', B', x1, x2, x3, x4⟩ := g1 e2
          refine ⟨τ', B', ((rn_s es).trans b1).trans x1, ?_, x3, ?_⟩
          · rw [x2]; simp only [List.append_assoc, List.singleton_append]
          · simp only [List.length_cons]; omega
      · rw [if_neg e]
        exact ⟨fun z => (by cases z), fun _ => by rw [rn_s es]; exact a2 (by simpa using e)⟩
    · rw [if_neg k]
      refine ⟨fun _ => ⟨τ, B, rfl, by rw [hc, List.append_nil], fun t' r' e' => ?_, Nat.le_refl _⟩, fun z => by cases z⟩
      cases e'
      rcases hR t r rfl with z | ⟨z1, z2, z3⟩
      · exact Or.inl (by omega)
      · exact Or.inr ⟨z1, by omega, z3⟩
theorem prOk : ∀ (f m : Nat) (ts : List Tkn) (d u : Nat), nee m ts.length ≤ f → (m = 6 → clmP (pr f m ts d u) ts d u) ∧ (1 ≤ m → m ≤ 6 → clmE m (pr f m ts d u) ts d u) ∧ (∀ l, 1 ≤ l → l ≤ 5 → m = 10 + l → clmL l (pr f m ts d u) ts d u) := by
  intro f
  induction f with
  | zero =>
    intro m ts d u hf
    unfold nee at hf
    split at hf <;> omega
  | succ f ih =>
    intro m ts d u hf
    have h6 : m = 6 → clmP (pr (f + 1) m ts d u) ts d u := by
      intro e
      subst e
      rw [pr, if_pos rfl]
      unfold nee at hf
      rw [if_pos (by omega)] at hf
      exact prP_ok (fun t r e d u => (ih 6 r d u (by unfold nee; rw [if_pos (by omega)]; rw [e, List.length_cons] at hf; omega)).1 rfl) (fun t r e d u => (ih 1 r d u (by unfold nee; rw [if_pos (by omega)]; rw [e, List.length_cons] at hf; omega)).2.1 (by omega) (by omega))
    refine ⟨h6, fun h1 h2 => ?_, fun l h1 h2 e => ?_⟩
    · by_cases e : m = 6
      · have := h6 e
        subst e
        exact P_E this
      · rw [pr, if_neg e, if_pos (by omega)]
        unfold nee at hf
        rw [if_pos h2] at hf
        exact prE_ok h1 ((ih (m + 1) ts d u (by unfold nee; rw [if_pos (by omega)]; omega)).2.1 (by omega) (by omega)) (fun ts' hl => (ih (10 + m) ts' d u (by unfold nee; rw [if_neg (by omega)]; omega)).2.2 m h1 (by omega) rfl)
    · subst e
      rw [pr, if_neg (by omega), if_neg (by omega), Nat.add_sub_cancel_left]
      unfold nee at hf
      rw [if_neg (by omega)] at hf
      exact prL_ok h1 h2 (fun t r e => (ih (l + 1) r d u (by unfold nee; rw [if_pos (by omega)]; rw [e, List.length_cons] at hf; omega)).2.1 (by omega) (by omega)) (fun ts' hl => (ih (10 + l) ts' d u (by unfold nee; rw [if_neg (by omega)]; omega)).2.2 l h1 h2 rfl)
def prG (ts : List Tkn) : Rsl := pr (8 * ts.length + 8) 1 ts 0 0
/-- the whole text, the same of both -/
theorem rn_pr (ts : List Tkn) : rnM ([], true, [], 0, 0) ts = if (prG ts).1 = true ∧ (prG ts).2.1 = [] then (some (prG ts).2.2, []) else (none, (prG ts).2.1) := by
  obtain ⟨g1, g2⟩ := (prOk (8 * ts.length + 8) 1 ts 0 0 (by unfold nee; rw [if_pos (by omega)]; omega)).2.1 (by omega) (by omega) [] [] (fun c τ e => by cases e)
  unfold prG
  by_cases e : (pr (8 * ts.length + 8) 1 ts 0 0).1 = true
  · obtain ⟨τ, B, a1, a2, a3, -⟩ := g1 e
    rw [a1]
    have a2' : clo 0 τ B = ([], (pr (8 * ts.length + 8) 1 ts 0 0).2.2) := a2
    cases hr : (pr (8 * ts.length + 8) 1 ts 0 0).2.1 with
    | nil => rw [if_pos ⟨e, rfl⟩, rnM, if_neg (by simp)]; simp only []; rw [a2']
    | cons t r =>
      rw [if_neg (fun z => by cases z.2)]
      refine rn_n ?_
      unfold tkN tkJ
      rw [if_neg (fun z : false = true => by cases z), if_neg (fun z => absurd z.2.2 (Nat.lt_irrefl 0))]
      rcases a3 t r hr with z | ⟨z1, -, z3⟩
      · rw [if_pos (by omega)]
      · rw [if_neg (by omega), if_pos z1, if_pos z3]
  · rw [if_neg (fun z => e z.1)]
    exact g2 (by simpa using e)

/-! a text that was read is a text as the calls want it -/
def rnD : Nat → List Stq → Option Nat
  | D, [] => some D
  | D, x :: S => if x.1 < 2 then rnD (D + 1) S else if x.2 = 33 then (if 1 ≤ D then rnD D S else none) else if 2 ≤ D then rnD (D - 1) S else none
theorem rnD_app {T : List Stq} : ∀ {S : List Stq} {D E : Nat}, rnD D S = some E → rnD D (S ++ T) = rnD E T := by
  intro S
  induction S with
  | nil => intro D E h; cases h; rfl
  | cons x S ih =>
    intro D E h
    rw [List.cons_append]
    rw [rnD] at h ⊢
    by_cases e1 : x.1 < 2
    · rw [if_pos e1] at h ⊢; exact ih h
    · rw [if_neg e1] at h ⊢
      by_cases e2 : x.2 = 33
      · rw [if_pos e2] at h ⊢
        by_cases e3 : 1 ≤ D
        · rw [if_pos e3] at h ⊢; exact ih h
        · rw [if_neg e3] at h; cases h
      · rw [if_neg e2] at h ⊢
        by_cases e3 : 2 ≤ D
        · rw [if_pos e3] at h ⊢; exact ih h
        · rw [if_neg e3] at h; cases h
def okQ (ky : Nat) (x : Stq) : Prop := (x.1 = 0 ∧ x.2 ≤ 9999) ∨ (x.1 = 1 ∧ isNm ky x.2 = true) ∨ (x.1 = 2 ∧ (x.2 = 33 ∨ ¬ rkc x.2 = 0))
def okK (ky : Nat) (t : Tkn) : Prop := (t.2.2.1 = 0 → t.2.2.2 ≤ 9999) ∧ (t.2.2.1 = 1 → isNm ky t.2.2.2 = true)
/-- what a way through leaves: m up to 6 one more on the pile, a loop none -/
def gdR (ky m : Nat) (ts : List Tkn) (x : Rsl) : Prop := (∀ t, t ∈ x.2.1 → t ∈ ts) ∧ (x.1 = true → (∀ y, y ∈ x.2.2 → okQ ky y) ∧ (m ≤ 6 → ∀ D, rnD D x.2.2 = some (D + 1)) ∧ (6 < m → ∀ D, rnD (D + 1) x.2.2 = some (D + 1)))
theorem gdR.f {ky m : Nat} {ts rs : List Tkn} {S : List Stq} (h : ∀ t, t ∈ rs → t ∈ ts) : gdR ky m ts (false, rs, S) := ⟨h, fun q => by cases q⟩
theorem pr_good {ky : Nat} : ∀ (f m : Nat) (ts : List Tkn) (d u : Nat), ((1 ≤ m ∧ m ≤ 6) ∨ (11 ≤ m ∧ m ≤ 15)) → (∀ t, t ∈ ts → okK ky t) → gdR ky m ts (pr f m ts d u) := by
  intro f
  induction f with
  | zero => intro m ts d u _ _; rw [pr]; exact gdR.f (fun t h => h)
  | succ f ih =>
    intro m ts d u hm hts
    rw [pr]
    by_cases h6 : m = 6
    · rw [if_pos h6]
      subst h6
      unfold prP
      cases ts with
      | nil => exact gdR.f (fun t h => h)
      | cons t r =>
        have htr : ∀ x, x ∈ r → okK ky x := fun x hx => hts x (List.mem_cons_of_mem _ hx)
        dsimp only
        by_cases e1 : t.2.2.1 < 2
        · rw [if_pos e1]
          refine ⟨fun x hx => List.mem_cons_of_mem _ hx, fun _ => ⟨fun y hy => ?_, fun _ D => ?_, fun q => by omega⟩⟩
          · rw [List.mem_singleton] at hy
            subst hy
            have hk := hts t (List.mem_cons_self ..)
            rcases (show t.2.2.1 = 0 ∨ t.2.2.1 = 1 by omega) with q | q
            · exact Or.inl ⟨q, hk.1 q⟩
            · exact Or.inr (Or.inl ⟨q, hk.2 q⟩)
          · rw [rnD, if_pos e1, rnD]
        · rw [if_neg e1]
          by_cases e2 : t.2.2.1 = 2 ∧ t.2.2.2 = 33 ∧ u < 8
          · rw [if_pos e2]
            obtain ⟨a1, a2⟩ := ih 6 r d (u + 1) (by omega) htr
            unfold prB
            by_cases e3 : (pr f 6 r d (u + 1)).1 = true
            · rw [if_pos e3]
              obtain ⟨b1, b2, -⟩ := a2 e3
              refine ⟨fun x hx => List.mem_cons_of_mem _ (a1 x hx), fun _ => ⟨fun y hy => ?_, fun _ D => ?_, fun q => by omega⟩⟩
              · rcases List.mem_append.mp hy with q | q
                · exact b1 y q
                · rw [List.mem_singleton] at q; subst q; exact Or.inr (Or.inr ⟨rfl, Or.inl rfl⟩)
              · rw [rnD_app (b2 (Nat.le_refl _) D), rnD, if_neg (by decide), if_pos rfl, if_pos (by omega), rnD]
            · rw [if_neg e3]
              exact gdR.f (fun x hx => List.mem_cons_of_mem _ (a1 x hx))
          · rw [if_neg e2]
            by_cases e4 : t.2.2.1 = 2 ∧ t.2.2.2 = 40 ∧ d < 8
            · rw [if_pos e4]
              obtain ⟨a1, a2⟩ := ih 1 r (d + 1) u (by omega) htr
              unfold prR
              by_cases e3 : (pr f 1 r (d + 1) u).1 = true
              · rw [if_pos e3]
                obtain ⟨b1, b2, -⟩ := a2 e3
                cases hr : (pr f 1 r (d + 1) u).2.1 with
                | nil => exact gdR.f (fun x hx => by cases hx)
                | cons t' r' =>
                  rw [hr] at a1
                  dsimp only
                  by_cases e5 : t'.2.2.1 = 2 ∧ t'.2.2.2 = 41
                  · rw [if_pos e5]
                    exact ⟨fun x hx => List.mem_cons_of_mem _ (a1 x (List.mem_cons_of_mem _ hx)), fun _ => ⟨b1, fun _ D => b2 (by omega) D, fun q => by omega⟩⟩
                  · rw [if_neg e5]
                    exact gdR.f (fun x hx => List.mem_cons_of_mem _ (a1 x hx))
              · rw [if_neg e3]
                exact gdR.f (fun x hx => List.mem_cons_of_mem _ (a1 x hx))
            · rw [if_neg e4]
              exact gdR.f (fun x hx => hx)
    · rw [if_neg h6]
      by_cases h7 : m < 6
      · rw [if_pos h7]
        unfold prE
        obtain ⟨a1, a2⟩ := ih (m + 1) ts d u (by omega) hts
        obtain ⟨c1, c2⟩ := ih (10 + m) (pr f (m + 1) ts d u).2.1 d u (by omega) (fun t h => hts t (a1 t h))
        by_cases e3 : (pr f (m + 1) ts d u).1 = true
        · rw [if_pos e3]
          obtain ⟨b1, b2, -⟩ := a2 e3
          refine ⟨fun x hx => a1 x (c1 x hx), fun q => ?_⟩
          obtain ⟨d1, -, d3⟩ := c2 q
          refine ⟨fun y hy => ?_, fun _ D => ?_, fun q => by omega⟩
          · rcases List.mem_append.mp hy with q | q
            · exact b1 y q
            · exact d1 y q
          · rw [rnD_app (b2 (by omega) D)]
            exact d3 (by omega) D
        · rw [if_neg e3]
          exact gdR.f a1
      · rw [if_neg h7]
        unfold prL
        cases ts with
        | nil => exact ⟨fun x hx => hx, fun _ => ⟨fun y hy => (by cases hy), fun q => (by omega), fun _ D => rfl⟩⟩
        | cons t r =>
          have htr : ∀ x, x ∈ r → okK ky x := fun x hx => hts x (List.mem_cons_of_mem _ hx)
          dsimp only
          obtain ⟨l, hl⟩ : ∃ l, m - 10 = l := ⟨_, rfl⟩
          rw [hl]
          by_cases e1 : rk t = l
          · rw [if_pos e1]
            have hr := rk_k (show ¬ rk t = 0 by omega)
            have hokc : okQ ky (2, t.2.2.2) := Or.inr (Or.inr ⟨rfl, Or.inr (by show ¬ rkc t.2.2.2 = 0; rw [← hr.2.1]; omega)⟩)
            obtain ⟨a1, a2⟩ := ih (l + 1) r d u (by omega) htr
            obtain ⟨c1, c2⟩ := ih (10 + l) (pr f (l + 1) r d u).2.1 d u (by omega) (fun t h => htr t (a1 t h))
            by_cases e3 : (pr f (l + 1) r d u).1 = true
            · rw [if_pos e3]
              obtain ⟨b1, b2, -⟩ := a2 e3
              by_cases e4 : l = 3
              · rw [if_pos e4]
                refine ⟨fun x hx => List.mem_cons_of_mem _ (a1 x hx), fun _ => ⟨fun y hy => ?_, fun q => by omega, fun _ D => ?_⟩⟩
                · rcases List.mem_append.mp hy with q | q
                  · exact b1 y q
                  · rw [List.mem_singleton] at q; subst q; exact hokc
                · rw [rnD_app (b2 (by omega) (D + 1)), rnD, if_neg (show ¬ (2 : Nat) < 2 by decide), if_neg hr.2.2.2, if_pos (by omega), rnD]
                  rfl
              · rw [if_neg e4]
                refine ⟨fun x hx => List.mem_cons_of_mem _ (a1 x (c1 x hx)), fun q => ?_⟩
                obtain ⟨d1, -, d3⟩ := c2 q
                refine ⟨fun y hy => ?_, fun q => by omega, fun _ D => ?_⟩
                · rcases List.mem_append.mp hy with q | q
                  · exact b1 y q
                  · rcases List.mem_cons.mp q with q | q
                    · subst q; exact hokc
                    · exact d1 y q
                · rw [rnD_app (b2 (by omega) (D + 1)), rnD, if_neg (show ¬ (2 : Nat) < 2 by decide), if_neg hr.2.2.2, if_pos (by omega)]
                  exact d3 (by omega) D
            · rw [if_neg e3]
              exact gdR.f (fun x hx => List.mem_cons_of_mem _ (a1 x hx))
          · rw [if_neg e1]
            exact ⟨fun x hx => hx, fun _ => ⟨fun y hy => (by cases hy), fun q => (by omega), fun _ D => rfl⟩⟩
def tagQ (x : Stq) : Nat := if x.1 < 2 then 0 else if x.2 = 33 then 1 else 2
theorem rnD_wf {op : Nat → Nat × Int32} {lv : Nat} : ∀ (S : List Stq) (i D E : Nat), (∀ j, j < S.length → (op (i + j)).1 = tagQ (S.getD j (0, 0))) → dpt op i = D → rnD D S = some E → D + lvs S ≤ lv → (∀ j, j < S.length → (((op (i + j)).1 = 0 → dpt op (i + j) < lv) ∧ ((op (i + j)).1 = 1 → 1 ≤ dpt op (i + j)) ∧ (¬ (op (i + j)).1 = 0 → ¬ (op (i + j)).1 = 1 → 2 ≤ dpt op (i + j)))) ∧ dpt op (i + S.length) = E := by
  intro S
  induction S with
  | nil => intro i D E _ hD h _; cases h; exact ⟨fun j hj => absurd hj (Nat.not_lt_zero _), hD⟩
  | cons x S ih =>
    intro i D E ht hD h hl
    have h0 : (op i).1 = tagQ x := ht 0 (by simp)
    have hs : ∀ j, j < S.length → (op (i + 1 + j)).1 = tagQ (S.getD j (0, 0)) := by
      intro j hj
      have := ht (j + 1) (by rw [List.length_cons]; omega)
      rw [show i + 1 + j = i + (j + 1) by omega]
      exact this
    have fin : ∀ D', dpt op (i + 1) = D' → rnD D' S = some E → D' + lvs S ≤ lv → (((op i).1 = 0 → dpt op i < lv) ∧ ((op i).1 = 1 → 1 ≤ dpt op i) ∧ (¬ (op i).1 = 0 → ¬ (op i).1 = 1 → 2 ≤ dpt op i)) → (∀ j, j < (x :: S).length → (((op (i + j)).1 = 0 → dpt op (i + j) < lv) ∧ ((op (i + j)).1 = 1 → 1 ≤ dpt op (i + j)) ∧ (¬ (op (i + j)).1 = 0 → ¬ (op (i + j)).1 = 1 → 2 ≤ dpt op (i + j)))) ∧ dpt op (i + (x :: S).length) = E := by
      intro D' k1 k2 k3 k4
      obtain ⟨b1, b2⟩ := ih (i + 1) D' E hs k1 k2 k3
      refine ⟨fun j hj => ?_, by rw [List.length_cons, show i + (S.length + 1) = i + 1 + S.length by omega]; exact b2⟩
      cases j with
      | zero => exact k4
      | succ j =>
        rw [show i + (j + 1) = i + 1 + j by omega]
        exact b1 j (by rw [List.length_cons] at hj; omega)
    rw [rnD] at h
    rw [lvs] at hl
    unfold tagQ at h0
    by_cases e1 : x.1 < 2
    · rw [if_pos e1] at h h0 hl
      refine fin (D + 1) ?_ h (by omega) ⟨fun _ => by omega, fun q => by omega, fun q => absurd h0 q⟩
      rw [dpt, if_pos h0, hD]
    · rw [if_neg e1] at h h0 hl
      by_cases e2 : x.2 = 33
      · rw [if_pos e2] at h h0
        by_cases e3 : 1 ≤ D
        · rw [if_pos e3] at h
          refine fin D ?_ h (by omega) ⟨fun q => by omega, fun _ => by omega, fun _ q => absurd h0 q⟩
          rw [dpt, if_neg (by omega), if_pos h0, hD]
        · rw [if_neg e3] at h; cases h
      · rw [if_neg e2] at h h0
        by_cases e3 : 2 ≤ D
        · rw [if_pos e3] at h
          refine fin (D - 1) ?_ h (by omega) ⟨fun q => by omega, fun q => by omega, fun _ _ => by omega⟩
          rw [dpt, if_neg (by omega), if_neg (by omega), hD]
        · rw [if_neg e3] at h; cases h
theorem isNm_l {ky c : Nat} (hk : ky < 3) (h : isNm ky c = true) : ∃ p, p < nlt ky ∧ c = ltr ky p := by
  rcases (show ky = 0 ∨ ky = 1 ∨ ky = 2 by omega) with rfl | rfl | rfl
  · rcases of_decide_eq_true h with rfl | rfl | rfl
    · exact ⟨0, by decide, rfl⟩
    · exact ⟨1, by decide, rfl⟩
    · exact ⟨2, by decide, rfl⟩
  · rcases of_decide_eq_true h with rfl | rfl
    · exact ⟨0, by decide, rfl⟩
    · exact ⟨1, by decide, rfl⟩
  · rcases of_decide_eq_true h with rfl | rfl
    · exact ⟨0, by decide, rfl⟩
    · exact ⟨1, by decide, rfl⟩
theorem okQ_stp {ky : Nat} {x : Stq} (hk : ky < 3) (h : okQ ky x) : stpOK ky (nI x.1) (nI x.2) ∧ x.1 ≤ 2 ∧ x.2 ≤ 9999 := by
  rcases h with ⟨a, b⟩ | ⟨a, b⟩ | ⟨a, b⟩
  · exact ⟨Or.inl ⟨by rw [a], x.2, b, rfl⟩, by omega, b⟩
  · obtain ⟨p, p1, p2⟩ := isNm_l hk b
    refine ⟨Or.inr (Or.inl ⟨by rw [a], p, p1, by rw [p2]⟩), by omega, ?_⟩
    rw [p2]
    unfold ltr
    (repeat' split) <;> decide
  · refine ⟨Or.inr (Or.inr ⟨by rw [a], ?_⟩), by omega, ?_⟩
    · rcases b with b | b
      · exact Or.inl (by rw [b])
      · refine Or.inr ?_
        have key : x.2 = 124 ∨ x.2 = 38 ∨ x.2 = 60 ∨ x.2 = 61 ∨ x.2 = 62 ∨ x.2 = 43 ∨ x.2 = 45 ∨ x.2 = 42 ∨ x.2 = 47 := by
          unfold rkc at b
          (repeat' split at b) <;> omega
        unfold sgn9
        rcases key with q | q | q | q | q | q | q | q | q <;> rw [q] <;> simp
    · rcases b with b | b
      · omega
      · unfold rkc at b
        (repeat' split at b) <;> omega

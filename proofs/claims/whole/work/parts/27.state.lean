/-! texts in the row s, cells that may change unseen, what reading calls stand on -/
def lstF (f : Nat → Int32) (key : Int32) : Nat → Option Nat
  | 0 => none
  | n + 1 => if f n = key then some n else lstF f key n
theorem lstF_lt {f : Nat → Int32} {key : Int32} : ∀ {n t : Nat}, lstF f key n = some t → t < n ∧ f t = key := by
  intro n
  induction n with
  | zero => intro t h; cases h
  | succ n ih =>
    intro t h
    rw [lstF] at h
    by_cases hc : f n = key
    · rw [if_pos hc] at h; cases h; exact ⟨by omega, hc⟩
    · rw [if_neg hc] at h
      obtain ⟨h1, h2⟩ := ih h
      exact ⟨by omega, h2⟩
abbrev whS (s : Nat → Int32) (t k : Nat) : Int32 := s (90 + 200 * t + 4 + 2 * k)
abbrev vS (s : Nat → Int32) (t k : Nat) : Int32 := s (90 + 200 * t + 4 + 2 * k + 1)
abbrev keyS (s : Nat → Int32) (t : Nat) : Int32 := s (90 + 200 * t + 0)
abbrev cntS (s : Nat → Int32) (nt : Nat) (key : Int32) : Option Nat := lstF (keyS s) key nt
/-- the letters of a key's names -/
def ltr (ky p : Nat) : Nat := if ky = 0 then (if p = 0 then 116 else if p = 1 then 115 else 104) else if ky = 1 then (if p = 0 then 99 else 117) else (if p = 0 then 116 else 99)
def nlt (ky : Nat) : Nat := if ky = 0 then 3 else 2
def stpOK (ky : Nat) (wh v : Int32) : Prop := (wh = nI 0 ∧ ∃ x : Nat, x ≤ 9999 ∧ v = nI x) ∨ (wh = nI 1 ∧ ∃ p : Nat, p < nlt ky ∧ v = nI (ltr ky p)) ∨ (wh = nI 2 ∧ (v = nI 33 ∨ sgn9 v))
/-- how the class writes a step -/
def encS (ky : Nat) (wh v : Int32) : Int32 := if wh = nI 0 then v else if wh = nI 1 then (if v = nI (ltr ky 0) then -1 else if v = nI (ltr ky 1) then -2 else -3) else -v
/-- the names' values by letters -/
def nmF (ky : Nat) (a b c : Int32) (x : Nat) : Int32 := if x = ltr ky 0 then a else if x = ltr ky 1 then b else c
def txtOK (s : Nat → Int32) (t ky L lv : Nat) : Prop := keyS s t = nI ky ∧ ky < 3 ∧ s (90 + 200 * t + 1) = nI lv ∧ s (90 + 200 * t + 2) = nI L ∧ (∀ k, k < L → stpOK ky (whS s t k) (vS s t k)) ∧ wfO (opM (whS s t) (vS s t) (fun _ => 0)) L lv
def txv (s : Nat → Int32) (t L : Nat) (nm : Nat → Int32) : Int32 := pil (opM (whS s t) (vS s t) nm) (fun _ => 0) L 0
theorem dpt_tag {op op' : Nat → Nat × Int32} : ∀ {L : Nat}, (∀ k, k < L → (op k).1 = (op' k).1) → ∀ k, k ≤ L → dpt op k = dpt op' k := by
  intro L h k
  induction k with
  | zero => intro _; rfl
  | succ k ih => intro hk; rw [dpt, dpt, ih (by omega), h k (by omega)]
theorem wfO_tag {op op' : Nat → Nat × Int32} {L lv : Nat} (h : ∀ k, k < L → (op k).1 = (op' k).1) (hw : wfO op L lv) : wfO op' L lv := by
  refine ⟨fun k hk => ?_, ?_, hw.2.2.1, hw.2.2.2⟩
  · rw [← dpt_tag h k (by omega), ← h k hk]; exact hw.1 k hk
  · rw [← dpt_tag h L (Nat.le_refl _)]; exact hw.2.1
theorem pil_op {op op' : Nat → Nat × Int32} {f : Nat → Int32} : ∀ {L : Nat}, (∀ k, k < L → op k = op' k) → ∀ k, k ≤ L → pil op f k = pil op' f k ∧ dpt op k = dpt op' k := by
  intro L h k
  induction k with
  | zero => intro _; exact ⟨rfl, rfl⟩
  | succ k ih =>
    intro hk
    obtain ⟨i1, i2⟩ := ih (by omega)
    constructor
    · rw [pil, pil, i1, i2, h k (by omega)]
    · rw [dpt, dpt, i2, h k (by omega)]
theorem opM_tag (wh v nm nm' : Nat → Int32) (k : Nat) : (opM wh v nm k).1 = (opM wh v nm' k).1 := by
  unfold opM
  by_cases h : wh k = nI 2
  · rw [if_pos h, if_pos h]
  · rw [if_neg h, if_neg h]
theorem txtOK.wf {s : Nat → Int32} {t ky L lv : Nat} (h : txtOK s t ky L lv) (nm : Nat → Int32) : wfO (opM (whS s t) (vS s t) nm) L lv := wfO_tag (fun k _ => opM_tag _ _ _ _ k) h.2.2.2.2.2
theorem ltr_lt : ∀ ky, ky < 3 → ∀ p, p < 3 → ltr ky p < 128 := by decide
theorem txtOK.txm {s : Nat → Int32} {t ky L lv : Nat} (h : txtOK s t ky L lv) : TxM s t L (whS s t) (vS s t) := by
  obtain ⟨h1, h2, h3, h4, h5, h6⟩ := h
  refine ⟨h4, h6.2.2.1, fun k _ => ⟨rfl, rfl⟩, fun k hk => ?_⟩
  rcases h5 k hk with ⟨e, x, hx, ev⟩ | ⟨e, p, hp, ev⟩ | ⟨e, ev⟩
  · refine ⟨Or.inl e, fun z => ?_, fun z => ?_⟩
    · rw [e] at z; exact absurd z (by decide)
    · rw [e] at z; exact absurd z (by decide)
  · refine ⟨Or.inr (Or.inl e), fun _ => ⟨_, ltr_lt ky h2 p (by unfold nlt at hp; split at hp <;> omega), ev⟩, fun z => ?_⟩
    rw [e] at z; exact absurd z (by decide)
  · refine ⟨Or.inr (Or.inr e), fun z => ?_, fun _ => ev⟩
    rw [e] at z; exact absurd z (by decide)
/-- what a text gives doesn't hang on the pile, nor on names that it can't have -/
theorem txv_eq {s : Nat → Int32} {t ky L lv : Nat} (h : txtOK s t ky L lv) {nm nm' fs : Nat → Int32} (hn : ∀ p, p < nlt ky → nm (ltr ky p) = nm' (ltr ky p)) : pil (opM (whS s t) (vS s t) nm) fs L 0 = txv s t L nm' := by
  have e : ∀ k, k < L → opM (whS s t) (vS s t) nm k = opM (whS s t) (vS s t) nm' k := by
    intro k hk
    rcases h.2.2.2.2.1 k hk with ⟨e, x, hx, ev⟩ | ⟨e, p, hp, ev⟩ | ⟨e, ev⟩
    · rw [om_n (by rw [e]; decide) e, om_n (by rw [e]; decide) e]
    · have hl : ltr ky p < 128 := ltr_lt ky h.2.1 p (by unfold nlt at hp; split at hp <;> omega)
      rw [om_m (by rw [e]; decide) (by rw [e]; decide) hl ev, om_m (by rw [e]; decide) (by rw [e]; decide) hl ev, hn p hp]
    · unfold opM; rw [e, if_pos rfl, if_pos rfl]
  have hw := h.wf nm'
  unfold txv
  rw [(pil_op (f := fs) e L (Nat.le_refl _)).1]
  exact pil_same hw fs (fun _ => 0) L (Nat.le_refl _) 0 hw.2.1
theorem enc_op {ky : Nat} (hk3 : ky < 3) {wh v f : Nat → Int32} {a b c : Int32} {k : Nat} (hs : stpOK ky (wh k) (v k)) (hf : f k = encS ky (wh k) (v k)) : opC f a b c k = opM wh v (nmF ky a b c) k := by
  rcases hs with ⟨e, x, hx, ev⟩ | ⟨e, p, hp, ev⟩ | ⟨e, ev⟩
  · have hf2 : f k = nI x := by rw [hf, encS, e, if_pos rfl, ev]
    rw [op_n (by rw [hf2]; intro z; rw [Int32.lt_iff_toInt_lt, nI_toInt (by omega)] at z; have e3 : (-3 : Int32).toInt = -3 := by decide
                 omega) (by rw [hf2]; exact nI_pos (by omega)), om_n (by rw [e]; decide) e, hf2, ev]
  · have hl : ltr ky p < 128 := ltr_lt ky hk3 p (by unfold nlt at hp; split at hp <;> omega)
    rw [om_m (by rw [e]; decide) (by rw [e]; decide) hl ev]
    have hf2 : f k = if v k = nI (ltr ky 0) then -1 else if v k = nI (ltr ky 1) then -2 else -3 := by rw [hf, encS, e, if_neg (by decide), if_pos rfl]
    have hky : ky = 0 ∨ ky = 1 ∨ ky = 2 := by omega
    rcases hky with rfl | rfl | rfl
    · have hp3 : p = 0 ∨ p = 1 ∨ p = 2 := by unfold nlt at hp; simp at hp; omega
      rcases hp3 with rfl | rfl | rfl
      · rw [op_a (by rw [hf2, ev]; decide)]; rfl
      · rw [op_b (by rw [hf2, ev]; decide)]; rfl
      · have : f k = -3 := by rw [hf2, ev]; decide
        rw [op_c (by rw [this]; decide) (by rw [this]; decide) (by rw [this]; decide) (by rw [this]; decide)]; rfl
    · have hp3 : p = 0 ∨ p = 1 := by unfold nlt at hp; simp at hp; omega
      rcases hp3 with rfl | rfl
      · rw [op_a (by rw [hf2, ev]; decide)]; rfl
      · rw [op_b (by rw [hf2, ev]; decide)]; rfl
    · have hp3 : p = 0 ∨ p = 1 := by unfold nlt at hp; simp at hp; omega
      rcases hp3 with rfl | rfl
      · rw [op_a (by rw [hf2, ev]; decide)]; rfl
      · rw [op_b (by rw [hf2, ev]; decide)]; rfl
  · have hf2 : f k = -(v k) := by rw [hf, encS, e, if_neg (by decide), if_neg (by decide)]
    rcases ev with ev | ev
    · rw [op_t (by rw [hf2, ev]; decide), om_t e ev]
    · have q : f k < -3 ∧ ¬ f k = -33 ∧ -(f k) = v k ∧ ¬ v k = nI 33 := by
        rw [hf2]
        rcases ev with z | z | z | z | z | z | z | z | z <;> rw [z] <;> decide
      rw [op_j q.1 q.2.1, om_j e q.2.2.2, q.2.2.1]
/-- cells that a reading call may change: names and pile of the reference, piles of texts -/
def scr (k : Nat) : Prop := k = 90 ∨ k = 91 ∨ (97 ≤ k ∧ k % 3 = 1)
def Sq (g : Gl) (h h' : AH) : Prop := h'.length = h.length ∧ (∀ k, ¬ scr k → h'[k]? = h[k]?) ∧ ∀ k, scr k → ∀ n f, h[k]? = some (ia g n f) → ∃ f', h'[k]? = some (ia g n f')
theorem Sq.rf {g : Gl} {h : AH} : Sq g h h := ⟨rfl, fun _ _ => rfl, fun _ _ _ f e => ⟨f, e⟩⟩
theorem Sq.tr {g : Gl} {h h' h'' : AH} (a : Sq g h h') (b : Sq g h' h'') : Sq g h h'' := by
  refine ⟨b.1.trans a.1, fun k hk => (b.2.1 k hk).trans (a.2.1 k hk), fun k hk n f e => ?_⟩
  obtain ⟨f', e'⟩ := a.2.2 k hk n f e
  exact b.2.2 k hk n f' e'
theorem Sq.st {g : Gl} {h : AH} {k n : Nat} {f f' : Nat → Int32} (hk : scr k) (e : h[k]? = some (ia g n f)) : Sq g h (h.set k (ia g n f')) := by
  refine ⟨List.length_set, fun j hj => ?_, fun j _ n' f2 e2 => ?_⟩
  · rw [List.getElem?_set, if_neg (fun z : k = j => hj (by rw [← z]; exact hk))]
  · by_cases q : k = j
    · subst q
      rw [e] at e2
      cases e2
      exact ⟨f', gs_eq e⟩
    · exact ⟨f2, gs_ne q e2⟩
theorem Sq.at {g : Gl} {h h' : AH} {k : Nat} {c : va_E} (a : Sq g h h') (hk : ¬ scr k) (e : h[k]? = some c) : h'[k]? = some c := (a.2.1 k hk).trans e
theorem nscr {k : Nat} (h : k < 90) : ¬ scr k := by unfold scr; omega
/-- the reference's texts -/
def TO (s : Nat → Int32) (nt : Nat) : Prop := s 1 = nI nt ∧ nt ≤ 14 ∧ ∀ t, t < nt → ∃ ky L lv, txtOK s t ky L lv
def POk (s : Nat → Int32) (n : Nat) : Prop := s 0 = nI n ∧ n ≤ 8 ∧ ∀ i, i < n → (∃ kd, kd < 6 ∧ s (10 + 4 * i + 0) = nI kd) ∧ (∃ c, c < 48 ∧ s (10 + 4 * i + 1) = nI c) ∧ ∃ σ, σ < 4 ∧ s (10 + 4 * i + 2) = nI σ
/-- what the reference's reading calls stand on -/
def MR (g : Gl) (h : AH) (z s : Nat → Int32) (n nt : Nat) : Prop := Ms g h z s ∧ POk s n ∧ TO s nt ∧ (∃ nm, h[90]? = some (ia g 128 nm)) ∧ ∃ fp, h[91]? = some (ia g 100 fp)
theorem MR.sq {g : Gl} {h h' : AH} {z s : Nat → Int32} {n nt : Nat} (a : MR g h z s n nt) (q : Sq g h h') : MR g h' z s n nt := by
  obtain ⟨⟨a1, a2⟩, a3, a4, ⟨nm, a5⟩, fp, a6⟩ := a
  exact ⟨⟨q.at (nscr (by omega)) a1, q.at (nscr (by omega)) a2⟩, a3, a4, q.2.2 90 (Or.inl rfl) _ _ a5, q.2.2 91 (Or.inr (Or.inl rfl)) _ _ a6⟩
/-- a text of the class in the pool: its cells, and that they say what the row says -/
def TxC (g : Gl) (h : AH) (s : Nat → Int32) (t j ky L lv : Nat) : Prop := ∃ f fs, h[96 + 3 * j]? = some (ob 5 [.int (nI ky), .int (nI lv), .ref (g.1 + (95 + 3 * j)), .ref (g.1 + (97 + 3 * j))]) ∧ h[95 + 3 * j]? = some (ia g L f) ∧ h[97 + 3 * j]? = some (ia g lv fs) ∧ ∀ k, k < L → f k = encS ky (whS s t k) (vS s t k)
def TxsB (g : Gl) (h : AH) (b : Nat) (s : Nat → Int32) (nt : Nat) : Prop := ∃ (ft : Nat → Option Nat) (fl : Nat → Int32) (tx : Nat → Nat), h[b + 2]? = some (ra g 3 14 ft) ∧ h[b + 3]? = some (ia g 3 fl) ∧ (∀ t, t < nt → ft t = some (g.1 + (96 + 3 * tx t)) ∧ ∃ ky L lv, txtOK s t ky L lv ∧ TxC g h s t (tx t) ky L lv) ∧ ∀ key, key < 3 → fl key = oN (-1) (cntS s nt (nI key))
/-- what the class's reading calls stand on -/
def CR (g : Gl) (h : AH) (b : Nat) (s : Nat → Int32) (n nt : Nat) : Prop := RoomB g h b s n ∧ POk s n ∧ TO s nt ∧ TxsB g h b s nt ∧ b ≤ 25
theorem RoomB.sq {g : Gl} {h h' : AH} {b n : Nat} {s : Nat → Int32} (a : RoomB g h b s n) (hb : b ≤ 25) (q : Sq g h h') : RoomB g h' b s n := by
  obtain ⟨a1, a2, a3, ⟨fp, a4, a5⟩, a6, a7⟩ := a
  refine ⟨q.at (nscr (by omega)) a1, a2, a3, ⟨fp, q.at (nscr (by omega)) a4, a5⟩, fun i hi => q.at (nscr (by omega)) (a6 i hi), fun i hi => ?_⟩
  obtain ⟨kd, ce, si, ti, e⟩ := a7 i hi
  exact ⟨kd, ce, si, ti, q.at (nscr (by omega)) e⟩
theorem TxC.sq {g : Gl} {h h' : AH} {s : Nat → Int32} {t j ky L lv : Nat} (a : TxC g h s t j ky L lv) (q : Sq g h h') : TxC g h' s t j ky L lv := by
  obtain ⟨f, fs, a1, a2, a3, a4⟩ := a
  obtain ⟨fs', a3'⟩ := q.2.2 _ (Or.inr (Or.inr ⟨by omega, by omega⟩)) _ _ a3
  exact ⟨f, fs', q.at (by unfold scr; omega) a1, q.at (by unfold scr; omega) a2, a3', a4⟩
theorem CR.sq {g : Gl} {h h' : AH} {b n nt : Nat} {s : Nat → Int32} (a : CR g h b s n nt) (q : Sq g h h') : CR g h' b s n nt := by
  obtain ⟨a1, a2, a3, ⟨ft, fl, tx, a4, a5, a6, a7⟩, a8⟩ := a
  refine ⟨a1.sq a8 q, a2, a3, ⟨ft, fl, tx, q.at (nscr (by omega)) a4, q.at (nscr (by omega)) a5, fun t ht => ?_, a7⟩, a8⟩
  obtain ⟨e, ky, L, lv, k1, k2⟩ := a6 t ht
  exact ⟨e, ky, L, lv, k1, k2.sq q⟩

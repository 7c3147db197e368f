/-! the class's state, the reference's state, their frames -/
section INVS
variable {g : Gl} {h h' : AH} {T : Nat → Prop}
theorem ShtC.fr {S : Sht} (a : ShtC g h S) (f : FrX T g h h') (hS : ∀ k, (k = 44 ∨ shX k) → ¬ T k) : ShtC g h' S := by
  obtain ⟨⟨fs, a1, a2⟩, a3⟩ := a
  refine ⟨⟨fs, f.at (hS 44 (Or.inl rfl)) (nscr (by omega)) a1, a2⟩, fun k hk => ?_⟩
  obtain ⟨b1, cf, b2, b3⟩ := a3 k hk
  exact ⟨f.at (hS _ (Or.inr (by unfold shX; omega))) (nscr (by omega)) b1, cf, f.at (hS _ (Or.inr (by unfold shX; omega))) (nscr (by omega)) b2, b3⟩
theorem SltC.fr {L : Nat → Slt} (a : SltC g h L) (f : FrX T g h h') (hS : ∀ k, (k = 45 ∨ slX k) → ¬ T k) : SltC g h' L := by
  obtain ⟨⟨fs, a1, a2⟩, a3⟩ := a
  refine ⟨⟨fs, f.at (hS 45 (Or.inl rfl)) (nscr (by omega)) a1, a2⟩, fun k hk => (a3 k hk).fr hk f (fun j hj => hS j (Or.inr (by unfold sl1 at hj; unfold slX; omega)))⟩
theorem RdA.fr {r tf : Nat → Int32} {tl : Nat} (a : RdA g h r tf tl) (f : FrX T g h h') (hS : ∀ k, (40 ≤ k ∧ k < 44) → ¬ T k) : RdA g h' r tf tl := by
  obtain ⟨⟨a1, a2, a3, a4⟩, ⟨fs, a5⟩, fo, a6⟩ := a
  exact ⟨⟨f.at (hS _ (by omega)) (nscr (by omega)) a1, f.at (hS _ (by omega)) (nscr (by omega)) a2, a3, a4⟩, ⟨fs, f.at (hS _ (by omega)) (nscr (by omega)) a5⟩, fo, f.at (hS _ (by omega)) (nscr (by omega)) a6⟩
theorem ShtM.fr {S : Sht} (a : ShtM g h S) (f : FrX T g h h') (hS : ∀ k, smX k → ¬ T k) : ShtM g h' S := by
  obtain ⟨⟨f1, a1, b1⟩, ⟨f2, a2, b2⟩, f3, a3, b3⟩ := a
  exact ⟨⟨f1, f.at (hS _ (by unfold smX; omega)) (nscr (by omega)) a1, b1⟩, ⟨f2, f.at (hS _ (by unfold smX; omega)) (nscr (by omega)) a2, b2⟩, f3, f.at (hS _ (by unfold smX; omega)) (nscr (by omega)) a3, b3⟩
theorem SltM.fr {L : Nat → Slt} (a : SltM g h L) (f : FrX T g h h') (hS : ∀ k, lmX k → ¬ T k) : SltM g h' L := by
  obtain ⟨f1, f2, f3, f4, f5, ⟨a1, a2, a3, a4, a5⟩, b⟩ := a
  exact ⟨f1, f2, f3, f4, f5, ⟨f.at (hS _ (by unfold lmX; omega)) (nscr (by omega)) a1, f.at (hS _ (by unfold lmX; omega)) (nscr (by omega)) a2, f.at (hS _ (by unfold lmX; omega)) (nscr (by omega)) a3, f.at (hS _ (by unfold lmX; omega)) (nscr (by omega)) a4, f.at (hS _ (by unfold lmX; omega)) (nscr (by omega)) a5⟩, b⟩
theorem nsc2 {k : Nat} (h : 92 ≤ k ∧ k < 97) : ¬ scr k := by unfold scr; omega
theorem MT.fx (a : MT g h) (f : FrX T g h h') (hS : ∀ k, (k = 78 ∨ k = 87 ∨ k = 88 ∨ k = 92 ∨ k = 94) → ¬ T k) : MT g h' := by
  obtain ⟨⟨f1, a1⟩, ⟨f2, a2⟩, ⟨f3, a3⟩, ⟨f4, a4⟩, f5, a5⟩ := a
  exact ⟨⟨f1, f.at (hS _ (by omega)) (nscr (by omega)) a1⟩, ⟨f2, f.at (hS _ (by omega)) (nscr (by omega)) a2⟩, ⟨f3, f.at (hS _ (by omega)) (nscr (by omega)) a3⟩, ⟨f4, f.at (hS _ (by omega)) (nsc2 (by omega)) a4⟩, f5, f.at (hS _ (by omega)) (nsc2 (by omega)) a5⟩
def ImC (g : Gl) (h : AH) (ik : Int32) (im : Nat → Int32) (ni nti : Nat) : Prop := ShB g h 13 ∧ (ik = nI 1 → CR g h 13 im ni nti)
def CI (g : Gl) (h : AH) (s : Nat → Int32) (n nt : Nat) (ik : Int32) (im : Nat → Int32) (ni nti : Nat) (S : Sht) (L : Nat → Slt) (wf : Nat → Int32) (c : Nat) (tf : Nat → Int32) (tl : Nat) : Prop :=
  h[0]? = some (wtC g ik (nI c)) ∧ CR g h 1 s n nt ∧ ImC g h ik im ni nti ∧ ThB g h ∧ (∃ r, RdA g h r tf tl) ∧ ShtC g h S ∧ SltC g h L ∧ h[46]? = some (ia g 60 wf)
def RI (g : Gl) (h : AH) (z s : Nat → Int32) (n nt : Nat) (ik : Int32) (im : Nat → Int32) (S : Sht) (L : Nat → Slt) (wf : Nat → Int32) (c : Nat) (tf : Nat → Int32) (tl : Nat) : Prop :=
  MR g h z s n nt ∧ (z 3 = ik ∧ z 15 = nI tl ∧ z 30 = nI c) ∧ MT g h ∧ h[77]? = some (ia g 3090 im) ∧ ShtM g h S ∧ SltM g h L ∧ h[89]? = some (ia g 96 tf) ∧ h[93]? = some (ia g 60 wf)
def PI (s : Nat → Int32) (n : Nat) (ik : Int32) (im : Nat → Int32) (ni : Nat) (S : Sht) (L : Nat → Slt) (c : Nat) : Prop := GQ s n ∧ (ik = 0 ∨ ik = nI 1) ∧ (ik = nI 1 → GQ im ni) ∧ SOk S ∧ LOk L ∧ c ≤ 60
variable {s im wf tf z : Nat → Int32} {n nt ni nti c tl : Nat} {ik : Int32} {S : Sht} {L : Nat → Slt}
theorem ImC.fr (a : ImC g h ik im ni nti) (f : FrX T g h h') (hS : ∀ k, rgX 13 k ∨ 95 ≤ k → ¬ T k) : ImC g h' ik im ni nti := ⟨a.1.fr (by omega) f (fun k q => hS k (Or.inl q)), fun e => (a.2 e).fr f hS⟩
theorem CI.fr (a : CI g h s n nt ik im ni nti S L wf c tf tl) (f : FrX T g h h') (hS : ∀ k, T k → 75 ≤ k ∧ k < 95) : CI g h' s n nt ik im ni nti S L wf c tf tl := by
  have H : ∀ k, k < 75 ∨ 95 ≤ k → ¬ T k := fun k q z => by have := hS k z; omega
  obtain ⟨a1, a2, a3, a4, ⟨r, a5⟩, a6, a7, a8⟩ := a
  exact ⟨f.at (H _ (by omega)) (nscr (by omega)) a1, a2.fr f (fun k q => H k (by unfold rgX at q; omega)), a3.fr f (fun k q => H k (by unfold rgX at q; omega)), a4.fr f (fun k q => H k (by unfold thX at q; omega)), ⟨r, a5.fr f (fun k q => H k (by omega))⟩, a6.fr f (fun k q => H k (by unfold shX at q; omega)), a7.fr f (fun k q => H k (by unfold slX at q; omega)), f.at (H _ (by omega)) (nscr (by omega)) a8⟩
theorem RI.fr (a : RI g h z s n nt ik im S L wf c tf tl) (f : FrX T g h h') (hS : ∀ k, T k → k < 75) : RI g h' z s n nt ik im S L wf c tf tl := by
  have H : ∀ k, 75 ≤ k → ¬ T k := fun k q z => by have := hS k z; omega
  obtain ⟨a1, a2, a3, a4, a5, a6, a7, a8⟩ := a
  exact ⟨a1.fr f (H _ (by omega)) (H _ (by omega)), a2, a3.fx f (fun k q => H k (by omega)), f.at (H _ (by omega)) (nscr (by omega)) a4, a5.fr f (fun k q => H k (by unfold smX at q; omega)), a6.fr f (fun k q => H k (by unfold lmX at q; omega)), f.at (H _ (by omega)) (nscr (by omega)) a7, f.at (H _ (by omega)) (nsc2 (by omega)) a8⟩
theorem CI.room {s' : Nat → Int32} {n' : Nat} (a : CI g h s n nt ik im ni nti S L wf c tf tl) (f : FrX (rmX 1) g h h') (x : CR g h' 1 s' n' nt) : CI g h' s' n' nt ik im ni nti S L wf c tf tl := by
  have H : ∀ k, k = 0 ∨ 13 ≤ k → ¬ rmX 1 k := fun k q z => by unfold rmX at z; omega
  obtain ⟨a1, a2, a3, a4, ⟨r, a5⟩, a6, a7, a8⟩ := a
  exact ⟨f.at (H _ (by omega)) (nscr (by omega)) a1, x, a3.fr f (fun k q => H k (by unfold rgX at q; omega)), a4.fr f (fun k q => H k (by unfold thX at q; omega)), ⟨r, a5.fr f (fun k q => H k (by omega))⟩, a6.fr f (fun k q => H k (by unfold shX at q; omega)), a7.fr f (fun k q => H k (by unfold slX at q; omega)), f.at (H _ (by omega)) (nscr (by omega)) a8⟩
theorem CI.th (a : CI g h s n nt ik im ni nti S L wf c tf tl) (f : FrX thX g h h') (x : ThB g h') : CI g h' s n nt ik im ni nti S L wf c tf tl := by
  have H : ∀ k, k < 25 ∨ 40 ≤ k → ¬ thX k := fun k q z => by unfold thX at z; omega
  obtain ⟨a1, a2, a3, a4, ⟨r, a5⟩, a6, a7, a8⟩ := a
  exact ⟨f.at (H _ (by omega)) (nscr (by omega)) a1, a2.fr f (fun k q => H k (by unfold rgX at q; omega)), a3.fr f (fun k q => H k (by unfold rgX at q; omega)), x, ⟨r, a5.fr f (fun k q => H k (by omega))⟩, a6.fr f (fun k q => H k (by unfold shX at q; omega)), a7.fr f (fun k q => H k (by unfold slX at q; omega)), f.at (H _ (by omega)) (nscr (by omega)) a8⟩
theorem CI.sht {S' : Sht} (a : CI g h s n nt ik im ni nti S L wf c tf tl) (f : FrX shX g h h') (x : ShtC g h' S') : CI g h' s n nt ik im ni nti S' L wf c tf tl := by
  have H : ∀ k, k < 47 ∨ 55 ≤ k → ¬ shX k := fun k q z => by unfold shX at z; omega
  obtain ⟨a1, a2, a3, a4, ⟨r, a5⟩, a6, a7, a8⟩ := a
  exact ⟨f.at (H _ (by omega)) (nscr (by omega)) a1, a2.fr f (fun k q => H k (by unfold rgX at q; omega)), a3.fr f (fun k q => H k (by unfold rgX at q; omega)), a4.fr f (fun k q => H k (by unfold thX at q; omega)), ⟨r, a5.fr f (fun k q => H k (by omega))⟩, x, a7.fr f (fun k q => H k (by unfold slX at q; omega)), f.at (H _ (by omega)) (nscr (by omega)) a8⟩
theorem CI.slt {L' : Nat → Slt} (a : CI g h s n nt ik im ni nti S L wf c tf tl) (f : FrX slX g h h') (x : SltC g h' L') : CI g h' s n nt ik im ni nti S L' wf c tf tl := by
  have H : ∀ k, k < 55 ∨ 75 ≤ k → ¬ slX k := fun k q z => by unfold slX at z; omega
  obtain ⟨a1, a2, a3, a4, ⟨r, a5⟩, a6, a7, a8⟩ := a
  exact ⟨f.at (H _ (by omega)) (nscr (by omega)) a1, a2.fr f (fun k q => H k (by unfold rgX at q; omega)), a3.fr f (fun k q => H k (by unfold rgX at q; omega)), a4.fr f (fun k q => H k (by unfold thX at q; omega)), ⟨r, a5.fr f (fun k q => H k (by omega))⟩, a6.fr f (fun k q => H k (by unfold shX at q; omega)), x, f.at (H _ (by omega)) (nscr (by omega)) a8⟩
theorem RI.room {s' : Nat → Int32} {n' : Nat} (a : RI g h z s n nt ik im S L wf c tf tl) (f : FrX mX g h h') (x : MR g h' z s' n' nt) : RI g h' z s' n' nt ik im S L wf c tf tl := by
  have H : ∀ k, 77 ≤ k → ¬ mX k := fun k q z => by unfold mX at z; omega
  obtain ⟨a1, a2, a3, a4, a5, a6, a7, a8⟩ := a
  exact ⟨x, a2, a3.fx f (fun k q => H k (by omega)), f.at (H _ (by omega)) (nscr (by omega)) a4, a5.fr f (fun k q => H k (by unfold smX at q; omega)), a6.fr f (fun k q => H k (by unfold lmX at q; omega)), f.at (H _ (by omega)) (nscr (by omega)) a7, f.at (H _ (by omega)) (nsc2 (by omega)) a8⟩
theorem RI.th (a : RI g h z s n nt ik im S L wf c tf tl) (f : FrX mtX g h h') (x : MR g h' z s n nt) (y : MT g h') : RI g h' z s n nt ik im S L wf c tf tl := by
  have H : ∀ k, (k = 77 ∨ (79 ≤ k ∧ k < 87) ∨ k = 89 ∨ k = 93) → ¬ mtX k := fun k q z => by unfold mtX at z; omega
  obtain ⟨a1, a2, a3, a4, a5, a6, a7, a8⟩ := a
  exact ⟨x, a2, y, f.at (H _ (by omega)) (nscr (by omega)) a4, a5.fr f (fun k q => H k (by unfold smX at q; omega)), a6.fr f (fun k q => H k (by unfold lmX at q; omega)), f.at (H _ (by omega)) (nscr (by omega)) a7, f.at (H _ (by omega)) (nsc2 (by omega)) a8⟩
theorem RI.sht {S' : Sht} (a : RI g h z s n nt ik im S L wf c tf tl) (f : FrX smX g h h') (x : ShtM g h' S') : RI g h' z s n nt ik im S' L wf c tf tl := by
  have H : ∀ k, (k < 79 ∨ 82 ≤ k) → ¬ smX k := fun k q z => by unfold smX at z; omega
  obtain ⟨a1, a2, a3, a4, a5, a6, a7, a8⟩ := a
  exact ⟨a1.fr f (H _ (by omega)) (H _ (by omega)), a2, a3.fx f (fun k q => H k (by omega)), f.at (H _ (by omega)) (nscr (by omega)) a4, x, a6.fr f (fun k q => H k (by unfold lmX at q; omega)), f.at (H _ (by omega)) (nscr (by omega)) a7, f.at (H _ (by omega)) (nsc2 (by omega)) a8⟩
theorem RI.cpy {S' : Sht} (a : RI g h z s n nt ik im S L wf c tf tl) (f : FrX cpX g h h') (x : ShtM g h' S') (y : ∃ fc, h'[92]? = some (ia g 24 fc)) : RI g h' z s n nt ik im S' L wf c tf tl := by
  have H : ∀ k, (¬ k = 81 ∧ ¬ k = 92) → ¬ cpX k := fun k q z => by unfold cpX at z; omega
  obtain ⟨a1, a2, ⟨⟨f1, m1⟩, ⟨f2, m2⟩, ⟨f3, m3⟩, -, f5, m5⟩, a4, a5, a6, a7, a8⟩ := a
  exact ⟨a1.fr f (H _ (by omega)) (H _ (by omega)), a2, ⟨⟨f1, f.at (H _ (by omega)) (nscr (by omega)) m1⟩, ⟨f2, f.at (H _ (by omega)) (nscr (by omega)) m2⟩, ⟨f3, f.at (H _ (by omega)) (nscr (by omega)) m3⟩, y, f5, f.at (H _ (by omega)) (nsc2 (by omega)) m5⟩, f.at (H _ (by omega)) (nscr (by omega)) a4, x, a6.fr f (fun k q => H k (by unfold lmX at q; omega)), f.at (H _ (by omega)) (nscr (by omega)) a7, f.at (H _ (by omega)) (nsc2 (by omega)) a8⟩
theorem RI.slt {L' : Nat → Slt} (a : RI g h z s n nt ik im S L wf c tf tl) (f : FrX lmX g h h') (x : SltM g h' L') : RI g h' z s n nt ik im S L' wf c tf tl := by
  have H : ∀ k, (k < 82 ∨ 87 ≤ k) → ¬ lmX k := fun k q z => by unfold lmX at z; omega
  obtain ⟨a1, a2, a3, a4, a5, a6, a7, a8⟩ := a
  exact ⟨a1.fr f (H _ (by omega)) (H _ (by omega)), a2, a3.fx f (fun k q => H k (by omega)), f.at (H _ (by omega)) (nscr (by omega)) a4, a5.fr f (fun k q => H k (by unfold smX at q; omega)), x, f.at (H _ (by omega)) (nscr (by omega)) a7, f.at (H _ (by omega)) (nsc2 (by omega)) a8⟩
/-- what both sides share: seen by the law's loop are only the numbers that the pool of texts hangs on -/
def IV (g : Gl) (h : AH) (nt : Nat) (ik : Int32) (nti : Nat) (tf : Nat → Int32) (tl j : Nat) : Prop := h.length = 95 + 3 * j ∧ TpB tf ∧ tl ≤ 96 ∧ ∃ (s : Nat → Int32) (n : Nat) (im : Nat → Int32) (ni : Nat) (S : Sht) (L : Nat → Slt) (wf : Nat → Int32) (c : Nat) (z : Nat → Int32), CI g h s n nt ik im ni nti S L wf c tf tl ∧ RI g h z s n nt ik im S L wf c tf tl ∧ PI s n ik im ni S L c
theorem IV.mk {j : Nat} (e : h.length = 95 + 3 * j) (b : TpB tf) (t : tl ≤ 96) (a1 : CI g h s n nt ik im ni nti S L wf c tf tl) (a2 : RI g h z s n nt ik im S L wf c tf tl) (a3 : PI s n ik im ni S L c) : IV g h nt ik nti tf tl j := ⟨e, b, t, s, n, im, ni, S, L, wf, c, z, a1, a2, a3⟩
end INVS

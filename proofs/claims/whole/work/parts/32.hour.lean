/-! an hour, as a function of the row; frames -/
theorem dN_ex (z : Int32) : ∃ n : Nat, n < 16777216 ∧ drv z = nI n := by
  have h2 : (drw z).toBitVec.toNat < 4294967296 := (drw z).toBitVec.isLt
  refine ⟨(drw z).toBitVec.toNat / 256, by omega, ?_⟩
  unfold drv ush32
  apply Int32.toBitVec_inj.mp
  have h1 := pk_ushr (drw z) (nI 8) 8 (by decide)
  apply BitVec.eq_of_toNat_eq
  rw [h1]
  rw [pk_tn (by omega)]
/-- what a draw gives, hidden from the unifier -/
noncomputable def dN (z : Int32) : Nat := Classical.choose (dN_ex z)
theorem drv_eq (z : Int32) : drv z = nI (dN z) := (Classical.choose_spec (dN_ex z)).2
theorem dN_lt (z : Int32) : dN z < 16777216 := (Classical.choose_spec (dN_ex z)).1
theorem drv_rem (z : Int32) {m : Nat} (h0 : 0 < m) (h : m < 2147483648) : rm32 (drv z) (nI m) = nI (dN z % m) := by
  rw [drv_eq]
  have := dN_lt z
  exact nI_rem (by omega) h0 h
abbrev drS (s : Nat → Int32) : Nat → Int32 := upd s 9 (drw (s 9))
def nxt (σ th : Nat) : Option Nat := if σ = 0 then (if 8 ≤ th then some (th - 8) else none) else if σ = 1 then (if th % 8 < 7 then some (th + 1) else none) else if σ = 2 then (if th < 40 then some (th + 8) else none) else (if 0 < th % 8 then some (th - 1) else none)
def thf (s : Nat → Int32) : Nat := (s 7).toNatClampNeg
def mvO (s : Nat → Int32) : Option Nat → Nat → Int32
  | none => drS s
  | some c => if wll s c then drS s else upd (drS s) 7 (nI c)
noncomputable def mvS (s : Nat → Int32) : Nat → Int32 := mvO s (nxt (dN (s 9) % 4) (thf s))
def r32 (σ th : Nat) : Int32 := if σ = 0 then nI th / nI 8 + (-1) else if σ = 2 then nI th / nI 8 + nI 1 else nI th / nI 8
def c32 (σ th : Nat) : Int32 := if σ = 1 then rm32 (nI th) (nI 8) + nI 1 else if σ = 3 then rm32 (nI th) (nI 8) + (-1) else rm32 (nI th) (nI 8)
theorem nxt_fin : ∀ σ, σ < 4 → ∀ th, th < 48 → (match nxt σ th with
  | none => decide (¬ ((0 ≤ r32 σ th ∧ r32 σ th < nI 6) ∧ (0 ≤ c32 σ th ∧ c32 σ th < nI 8)))
  | some c => decide (((0 ≤ r32 σ th ∧ r32 σ th < nI 6) ∧ (0 ≤ c32 σ th ∧ c32 σ th < nI 8)) ∧ r32 σ th * nI 8 + c32 σ th = nI c ∧ nI 8 * r32 σ th + c32 σ th = nI c ∧ c < 48)) = true := by decide +kernel
theorem nxt_n {σ th : Nat} (h1 : σ < 4) (h2 : th < 48) (h : nxt σ th = none) : ¬ ((0 ≤ r32 σ th ∧ r32 σ th < nI 6) ∧ (0 ≤ c32 σ th ∧ c32 σ th < nI 8)) := by
  have := nxt_fin σ h1 th h2
  rw [h] at this
  exact of_decide_eq_true this
theorem nxt_s {σ th c : Nat} (h1 : σ < 4) (h2 : th < 48) (h : nxt σ th = some c) : ((0 ≤ r32 σ th ∧ r32 σ th < nI 6) ∧ (0 ≤ c32 σ th ∧ c32 σ th < nI 8)) ∧ r32 σ th * nI 8 + c32 σ th = nI c ∧ nI 8 * r32 σ th + c32 σ th = nI c ∧ c < 48 := by
  have := nxt_fin σ h1 th h2
  rw [h] at this
  exact of_decide_eq_true this
def cgt (s : Nat → Int32) (nt n : Nat) : Bool := gdd s nt n (thf s)
/-- the second part: unseen or caught -/
def fndS (s : Nat → Int32) (nt n : Nat) : Nat → Int32 := if rm32 (drv (s 9)) (nI 100) < s 3 ∨ cgt (drS s) nt n = false then upd (drS s) 6 (drS s 6 + nI 1) else upd (drS s) 5 (drS s 5 + nI 1)
def tirS (s : Nat → Int32) : Nat → Nat → Int32
  | 0 => s
  | k + 1 => upd (tirS s k) (10 + 4 * k + 3) (hld (tirS s k (10 + 4 * k + 3) + (if awS (tirS s k) k then nI 5 else -20)) (nI 99))
noncomputable def trnS (s : Nat → Int32) (n : Nat) : Nat → Int32 := if rm32 (drv (s 9)) (nI 100) < s 4 ∧ 0 < n then upd (drS (drS s)) (10 + 4 * (dN (drS s 9) % n) + 2) (rm32 (s (10 + 4 * (dN (drS s 9) % n) + 2) + nI 1) (nI 4)) else drS s
noncomputable def hrS (s : Nat → Int32) (nt n : Nat) : Nat → Int32 := upd (trnS (tirS (fndS (mvS s) nt n) n) n) 2 (trnS (tirS (fndS (mvS s) nt n) n) n 2 + nI 1)
noncomputable def hrsS (s : Nat → Int32) (nt n : Nat) : Nat → Nat → Int32
  | 0 => s
  | k + 1 => hrS (hrsS s nt n k) nt n
/-- cells that differ are of S, or may change unseen -/
def FrX (S : Nat → Prop) (g : Gl) (h h' : AH) : Prop := h'.length = h.length ∧ (∀ k, ¬ S k → ¬ scr k → h'[k]? = h[k]?) ∧ ∀ k, scr k → ∀ n f, h[k]? = some (ia g n f) → ∃ f', h'[k]? = some (ia g n f')
theorem FrX.rf {S : Nat → Prop} {g : Gl} {h : AH} : FrX S g h h := ⟨rfl, fun _ _ _ => rfl, fun _ _ _ f e => ⟨f, e⟩⟩
theorem FrX.tr {S : Nat → Prop} {g : Gl} {h h' h'' : AH} (a : FrX S g h h') (b : FrX S g h' h'') : FrX S g h h'' := by
  refine ⟨b.1.trans a.1, fun k hs hk => (b.2.1 k hs hk).trans (a.2.1 k hs hk), fun k hk n f e => ?_⟩
  obtain ⟨f', e'⟩ := a.2.2 k hk n f e
  exact b.2.2 k hk n f' e'
theorem Sq.fr {S : Nat → Prop} {g : Gl} {h h' : AH} (a : Sq g h h') : FrX S g h h' := ⟨a.1, fun k _ hk => a.2.1 k hk, a.2.2⟩
theorem FrX.st {S : Nat → Prop} {g : Gl} {h : AH} {k : Nat} {c : va_E} (hk : S k) (hs : ¬ scr k) : FrX S g h (h.set k c) := by
  refine ⟨List.length_set, fun j hj _ => ?_, fun j hj n f e => ⟨f, ?_⟩⟩
  · rw [List.getElem?_set, if_neg (fun z : k = j => hj (by rw [← z]; exact hk))]
  · rw [List.getElem?_set, if_neg (fun z : k = j => hs (by rw [z]; exact hj))]; exact e
theorem FrX.mono {S S' : Nat → Prop} {g : Gl} {h h' : AH} (a : FrX S g h h') (hS : ∀ k, S k → S' k) : FrX S' g h h' := ⟨a.1, fun k hk hs => a.2.1 k (fun z => hk (hS k z)) hs, a.2.2⟩
theorem FrX.at {S : Nat → Prop} {g : Gl} {h h' : AH} {k : Nat} {c : va_E} (a : FrX S g h h') (hS : ¬ S k) (hk : ¬ scr k) (e : h[k]? = some c) : h'[k]? = some c := (a.2.1 k hS hk).trans e
/-- a room's own cells that calls write -/
def rmX (b k : Nat) : Prop := k = b ∨ (b + 4 ≤ k ∧ k < b + 12)
theorem upd_ne {s : Nat → Int32} {k j : Nat} {v : Int32} (h : j ≠ k) : upd s k v j = s j := pk_un h
theorem upd_eq {s : Nat → Int32} {k : Nat} {v : Int32} : upd s k v k = v := pk_us
theorem wll_upd {s : Nat → Int32} {k : Nat} {v : Int32} (hk : k < 42) : wll (upd s k v) = wll s := by
  funext c
  unfold wll
  rw [upd_ne (by omega)]
/-- only places below 90 differ, and neither 0 nor 1 -/
def lowD (s s' : Nat → Int32) : Prop := ∀ k, (k = 0 ∨ k = 1 ∨ 42 ≤ k) → s' k = s k
theorem lowD.rf {s : Nat → Int32} : lowD s s := fun _ _ => rfl
theorem lowD.tr {s s' s'' : Nat → Int32} (a : lowD s s') (b : lowD s' s'') : lowD s s'' := fun k hk => (b k hk).trans (a k hk)
theorem lowD.up {s : Nat → Int32} {k : Nat} {v : Int32} (h : 2 ≤ k) (h2 : k < 42) : lowD s (upd s k v) := fun j hj => upd_ne (by omega)
theorem txtOK.low {s s' : Nat → Int32} (d : lowD s s') {t ky L lv : Nat} (h : txtOK s t ky L lv) : txtOK s' t ky L lv := by
  have e : ∀ k, 90 ≤ k → s' k = s k := fun k hk => d k (by omega)
  have e1 : whS s' t = whS s t := by funext k; exact e _ (by omega)
  have e2 : vS s' t = vS s t := by funext k; exact e _ (by omega)
  obtain ⟨h1, h2, h3, h4, h5, h6⟩ := h
  exact ⟨(e _ (by omega)).trans h1, h2, (e _ (by omega)).trans h3, (e _ (by omega)).trans h4, by rw [e1, e2]; exact h5, by rw [e1, e2]; exact h6⟩
theorem TO.low {s s' : Nat → Int32} (d : lowD s s') {nt : Nat} (h : TO s nt) : TO s' nt := by
  refine ⟨(d 1 (by omega)).trans h.1, h.2.1, fun t ht => ?_⟩
  obtain ⟨ky, L, lv, q⟩ := h.2.2 t ht
  exact ⟨ky, L, lv, q.low d⟩
theorem cntS.low {s s' : Nat → Int32} (d : lowD s s') (nt : Nat) (key : Int32) : cntS s' nt key = cntS s nt key := by
  have : keyS s' = keyS s := by funext t; exact d _ (by omega)
  unfold cntS
  rw [this]
theorem wll.low {s s' : Nat → Int32} (d : lowD s s') : wll s' = wll s := by
  funext c; unfold wll; rw [d _ (by omega)]
theorem CR.upd {g : Gl} {h h' : AH} {b n nt : Nat} {s s' : Nat → Int32} (a : CR g h b s n nt) (f : FrX (rmX b) g h h') (d : lowD s s') (hR : RoomB g h' b s' n) (hP : POk s' n) : CR g h' b s' n nt := by
  obtain ⟨a1, a2, a3, ⟨ft, fl, tx, a4, a5, a6, a7⟩, a8⟩ := a
  refine ⟨hR, hP, a3.low d, ⟨ft, fl, tx, f.at (by unfold rmX; omega) (nscr (by omega)) a4, f.at (by unfold rmX; omega) (nscr (by omega)) a5, fun t ht => ?_, fun key hk => ?_⟩, a8⟩
  · obtain ⟨e, ky, L, lv, k1, q, fs, t1, t2, t3, t4⟩ := a6 t ht
    obtain ⟨fs', t3'⟩ := f.2.2 _ (Or.inr (Or.inr ⟨by omega, by omega⟩)) _ _ t3
    refine ⟨e, ky, L, lv, k1.low d, q, fs', f.at (by unfold rmX; omega) (by unfold scr; omega) t1, f.at (by unfold rmX; omega) (by unfold scr; omega) t2, t3', fun k hk => ?_⟩
    rw [t4 k hk]
    have e1 : whS s' t k = whS s t k := d _ (by omega)
    have e2 : vS s' t k = vS s t k := d _ (by omega)
    rw [e1, e2]
  · rw [cntS.low d]; exact a7 key hk
theorem MR.upd {g : Gl} {h h' : AH} {n nt : Nat} {z z' s s' : Nat → Int32} (a : MR g h z s n nt) (f : FrX (fun k => k = 75 ∨ k = 76) g h h') (d : lowD s s') (hM : Ms g h' z' s') (hP : POk s' n) : MR g h' z' s' n nt := by
  obtain ⟨a1, a2, a3, ⟨nm, a4⟩, fp, a5⟩ := a
  exact ⟨hM, hP, a3.low d, f.2.2 90 (Or.inl rfl) _ _ a4, f.2.2 91 (Or.inr (Or.inl rfl)) _ _ a5⟩
/-- a room's own numbers -/
theorem RoomB.fld {g : Gl} {h : AH} {b n : Nat} {s : Nat → Int32} (hR : RoomB g h b s n) {k : Nat} (v : Int32) (h2 : 2 ≤ k) (hk : k < 10) : RoomB g (h.set b (rmC g b (upd s k v) (setL (wll s) 48))) b (upd s k v) n := by
  obtain ⟨a1, a2, a3, ⟨fp, a4, a5⟩, a6, a7⟩ := hR
  refine ⟨?_, (upd_ne (by omega)).trans a2, a3, ⟨fp, gs_ne (by omega) a4, a5⟩, fun i hi => ?_, fun i hi => ?_⟩
  · rw [wll_upd (by omega)]; exact gs_eq a1
  · have e := a6 i hi
    unfold pS at e ⊢
    rw [upd_ne (by omega), upd_ne (by omega), upd_ne (by omega), upd_ne (by omega)]
    exact gs_ne (by omega) e
  · obtain ⟨kd, ce, si, ti, e⟩ := a7 i hi
    exact ⟨kd, ce, si, ti, gs_ne (by omega) e⟩
/-- a post's own numbers -/
theorem RoomB.pst {g : Gl} {h : AH} {b n : Nat} {s : Nat → Int32} (hR : RoomB g h b s n) {i f : Nat} (v : Int32) (hi : i < n) (hf : f < 4) : RoomB g (h.set (b + 4 + i) (pS (upd s (10 + 4 * i + f) v) i)) b (upd s (10 + 4 * i + f) v) n := by
  obtain ⟨a1, a2, a3, ⟨fp, a4, a5⟩, a6, a7⟩ := hR
  refine ⟨?_, (upd_ne (by omega)).trans a2, a3, ⟨fp, gs_ne (by omega) a4, a5⟩, fun j hj => ?_, fun j hj => ?_⟩
  · have e : rmC g b (upd s (10 + 4 * i + f) v) = rmC g b s := by
      funext w
      unfold rmC
      rw [upd_ne (k := 10 + 4 * i + f) (j := 0) (by omega), upd_ne (k := 10 + 4 * i + f) (j := 1) (by omega), upd_ne (k := 10 + 4 * i + f) (j := 2) (by omega), upd_ne (k := 10 + 4 * i + f) (j := 3) (by omega), upd_ne (k := 10 + 4 * i + f) (j := 4) (by omega), upd_ne (k := 10 + 4 * i + f) (j := 5) (by omega), upd_ne (k := 10 + 4 * i + f) (j := 6) (by omega), upd_ne (k := 10 + 4 * i + f) (j := 7) (by omega), upd_ne (k := 10 + 4 * i + f) (j := 9) (by omega)]
    rw [e, wll_upd (by omega)]
    exact gs_ne (by omega) a1
  · by_cases e : i = j
    · subst e; exact gs_eq (a6 i hi)
    · refine gs_ne (by omega) ?_
      have q := a6 j hj
      unfold pS at q ⊢
      rw [upd_ne (j := 10 + 4 * j + 0) (by omega), upd_ne (j := 10 + 4 * j + 1) (by omega), upd_ne (j := 10 + 4 * j + 2) (by omega), upd_ne (j := 10 + 4 * j + 3) (by omega)]
      exact q
  · by_cases e : i = j
    · subst e; exact ⟨_, _, _, _, gs_eq (a6 i hi)⟩
    · obtain ⟨kd, ce, si, ti, q⟩ := a7 j hj
      exact ⟨kd, ce, si, ti, gs_ne (by omega) q⟩
theorem POk.low {s : Nat → Int32} {n : Nat} (h : POk s n) {k : Nat} {v : Int32} (h2 : 2 ≤ k) (hk : k < 10) : POk (upd s k v) n := by
  refine ⟨(upd_ne (by omega)).trans h.1, h.2.1, fun i hi => ?_⟩
  rw [upd_ne (by omega), upd_ne (by omega), upd_ne (by omega)]
  exact h.2.2 i hi
theorem POk.trd {s : Nat → Int32} {n : Nat} (h : POk s n) {i : Nat} {v : Int32} : POk (upd s (10 + 4 * i + 3) v) n := by
  refine ⟨(upd_ne (by omega)).trans h.1, h.2.1, fun j hj => ?_⟩
  rw [upd_ne (by omega), upd_ne (by omega), upd_ne (by omega)]
  exact h.2.2 j hj
theorem POk.sid {s : Nat → Int32} {n : Nat} (h : POk s n) {i σ : Nat} (hσ : σ < 4) : POk (upd s (10 + 4 * i + 2) (nI σ)) n := by
  refine ⟨(upd_ne (by omega)).trans h.1, h.2.1, fun j hj => ?_⟩
  rw [upd_ne (k := 10 + 4 * i + 2) (j := 10 + 4 * j + 0) (by omega), upd_ne (k := 10 + 4 * i + 2) (j := 10 + 4 * j + 1) (by omega)]
  refine ⟨(h.2.2 j hj).1, (h.2.2 j hj).2.1, ?_⟩
  by_cases e : i = j
  · subst e; exact ⟨σ, hσ, upd_eq⟩
  · rw [upd_ne (by omega)]; exact (h.2.2 j hj).2.2

/-! public calls that think: what they may write; the fewest who see as much -/
def thX (k : Nat) : Prop := 25 ≤ k ∧ k < 40
def ThB (g : Gl) (h : AH) : Prop := ShB g h 25 ∧ (∃ a b c e, h[37]? = some (po a b c e)) ∧ (∃ f, h[38]? = some (la g 8 f)) ∧ ∃ f, h[39]? = some (ia g 8 f)
def mtX (k : Nat) : Prop := k = 76 ∨ k = 78 ∨ k = 87 ∨ k = 88 ∨ k = 92 ∨ k = 94
def MT (g : Gl) (h : AH) : Prop := (∃ f, h[78]? = some (ia g 3090 f)) ∧ (∃ f, h[87]? = some (la g 8 f)) ∧ (∃ f, h[88]? = some (ia g 90 f)) ∧ (∃ f, h[92]? = some (ia g 24 f)) ∧ ∃ f, h[94]? = some (ia g 60 f)
theorem ShB.fr {S : Nat → Prop} {g : Gl} {h h' : AH} {b : Nat} (a : ShB g h b) (hb : b ≤ 25) (f : FrX S g h h') (hS : ∀ k, rgX b k → ¬ S k) : ShB g h' b := by
  obtain ⟨⟨s0, w0, a1⟩, ⟨fp, a2, a3⟩, a4, ⟨ft, a5⟩, fl, a6⟩ := a
  have at_ : ∀ {k : Nat} {c : va_E}, b ≤ k → k < b + 12 → h[k]? = some c → h'[k]? = some c := fun h1 h2 e => f.at (hS _ ⟨h1, h2⟩) (nscr (by omega)) e
  refine ⟨⟨s0, w0, at_ (by omega) (by omega) a1⟩, ⟨fp, at_ (by omega) (by omega) a2, a3⟩, fun i hi => ?_, ⟨ft, at_ (by omega) (by omega) a5⟩, fl, at_ (by omega) (by omega) a6⟩
  obtain ⟨kd, ce, si, ti, e⟩ := a4 i hi
  exact ⟨kd, ce, si, ti, at_ (by omega) (by omega) e⟩
theorem ThB.fr {S : Nat → Prop} {g : Gl} {h h' : AH} (a : ThB g h) (f : FrX S g h h') (hS : ∀ k, thX k → ¬ S k) : ThB g h' := by
  obtain ⟨a1, ⟨x, y, u, v, a2⟩, ⟨f1, a3⟩, f2, a4⟩ := a
  exact ⟨a1.fr (by omega) f (fun k hk => hS k ⟨by have := hk.1; omega, by have := hk.2; omega⟩), ⟨x, y, u, v, f.at (hS _ ⟨by omega, by omega⟩) (nscr (by omega)) a2⟩, ⟨f1, f.at (hS _ ⟨by omega, by omega⟩) (nscr (by omega)) a3⟩, f2, f.at (hS _ ⟨by omega, by omega⟩) (nscr (by omega)) a4⟩
theorem ThB.sq {g : Gl} {h h' : AH} (a : ThB g h) (q : Sq g h h') : ThB g h' := a.fr (S := fun _ => False) q.fr (fun _ _ z => z)
theorem MT.fr {S : Nat → Prop} {g : Gl} {h h' : AH} (a : MT g h) (f : FrX S g h h') (hS : ∀ k, mtX k → ¬ S k) : MT g h' := by
  obtain ⟨⟨f1, a1⟩, ⟨f2, a2⟩, ⟨f3, a3⟩, ⟨f4, a4⟩, f5, a5⟩ := a
  have sc : ∀ k, mtX k → ¬ scr k := fun k hk => by unfold mtX at hk; unfold scr; omega
  have m1 : mtX 78 := by unfold mtX; omega
  have m2 : mtX 87 := by unfold mtX; omega
  have m3 : mtX 88 := by unfold mtX; omega
  have m4 : mtX 92 := by unfold mtX; omega
  have m5 : mtX 94 := by unfold mtX; omega
  exact ⟨⟨f1, f.at (hS _ m1) (sc _ m1) a1⟩, ⟨f2, f.at (hS _ m2) (sc _ m2) a2⟩, ⟨f3, f.at (hS _ m3) (sc _ m3) a3⟩, ⟨f4, f.at (hS _ m4) (sc _ m4) a4⟩, f5, f.at (hS _ m5) (sc _ m5) a5⟩
theorem MT.sq {g : Gl} {h h' : AH} (a : MT g h) (q : Sq g h h') : MT g h' := a.fr (S := fun _ => False) q.fr (fun _ _ z => z)
theorem MR.fr {S : Nat → Prop} {g : Gl} {h h' : AH} {z s : Nat → Int32} {n nt : Nat} (a : MR g h z s n nt) (f : FrX S g h h') (h75 : ¬ S 75) (h76 : ¬ S 76) : MR g h' z s n nt := by
  obtain ⟨⟨a1, a2⟩, a3, a4, ⟨nm, a5⟩, fp, a6⟩ := a
  exact ⟨⟨f.at h75 (nscr (by omega)) a1, f.at h76 (nscr (by omega)) a2⟩, a3, a4, f.2.2 90 (Or.inl rfl) _ _ a5, f.2.2 91 (Or.inr (Or.inl rfl)) _ _ a6⟩
/-- sets of posts -/
def p2 (n : Nat) : Nat := 2 ^ n
theorem p2_ok : ∀ n, n ≤ 8 → p2 n ≤ 256 ∧ 1 ≤ p2 n ∧ shl32 (nI 1) (nI n) = nI (p2 n) ∧ cntF 8 (p2 n - 1) = n ∧ (∀ j, j < p2 n - 1 → cntF 8 j < n) ∧ (∀ k, k < n → pb (nI (p2 n - 1)) k = true) ∧ ∀ j, j < p2 n → ∀ k, k < 8 → n ≤ k → pb (nI j) k = false := by decide +kernel
abbrev sgL (s : Nat → Int32) (nt k : Nat) : Int64 := setL (sgt s nt k) 48
def togF (S : Nat → Int64) (n j : Nat) : Int64 := uni (pb (nI j)) S n
def covF (S : Nat → Int64) (n j : Nat) : Bool := decide (togF S n j = uni (fun _ => true) S n)
def fwC (c : Nat → Bool) (fu : Nat) : Nat → Nat
  | 0 => fu
  | j + 1 => if cntF 8 j < cntF 8 (fwC c fu j) ∧ c j = true then j else fwC c fu j
def fwM (c : Nat → Bool) : Nat → Nat × Nat
  | 0 => (0, 9)
  | j + 1 => if cntF 8 j < (fwM c j).2 ∧ c j = true then (j, cntF 8 j) else fwM c j
theorem uni_S {P : Nat → Bool} {S S' : Nat → Int64} : ∀ {n : Nat}, (∀ k, k < n → S k = S' k) → uni P S n = uni P S' n := by
  intro n
  induction n with
  | zero => intro _; rfl
  | succ n ih => intro h; rw [uni, uni, ih (fun k hk => h k (by omega)), h n (by omega)]
theorem uni_off {P : Nat → Bool} {S : Nat → Int64} {n : Nat} : ∀ (m : Nat), (∀ k, n ≤ k → k < n + m → P k = false) → uni P S (n + m) = uni P S n := by
  intro m
  induction m with
  | zero => intro _; rfl
  | succ m ih =>
    intro h
    rw [← Nat.add_assoc, uni, if_neg (by rw [h (n + m) (by omega) (by omega)]; decide)]
    exact ih (fun k h1 h2 => h k h1 (by omega))
theorem tog_8 {S f : Nat → Int64} {n j : Nat} (hn : n ≤ 8) (hj : j < p2 n) (hf : ∀ k, k < n → f k = S k) : uni (pb (nI j)) f 8 = togF S n j := by
  have e := uni_off (P := pb (nI j)) (S := f) (n := n) (8 - n) (fun k h1 h2 => (p2_ok n hn).2.2.2.2.2.2 j hj k (by omega) h1)
  rw [show n + (8 - n) = 8 by omega] at e
  rw [e]
  exact uni_S hf
theorem cov_all {S : Nat → Int64} {n : Nat} (hn : n ≤ 8) : togF S n (p2 n - 1) = uni (fun _ => true) S n := uni_congr (fun k hk => (p2_ok n hn).2.2.2.2.2.1 k hk)
theorem fwC_lt {c : Nat → Bool} {fu : Nat} (hf : fu < 256) : ∀ j, j ≤ 256 → fwC c fu j < 256 := by
  intro j
  induction j with
  | zero => intro _; exact hf
  | succ j ih =>
    intro hj
    rw [fwC]
    split
    · omega
    · exact ih (by omega)
theorem fw_inv {c : Nat → Bool} {n : Nat} (hn : n ≤ 8) : ∀ j, j ≤ p2 n - 1 → ((fwM c j).2 = 9 ∧ fwC c (p2 n - 1) j = p2 n - 1) ∨ (fwM c j = (fwC c (p2 n - 1) j, cntF 8 (fwC c (p2 n - 1) j)) ∧ cntF 8 (fwC c (p2 n - 1) j) < n) := by
  obtain ⟨q1, q2, -, q4, q5, -, -⟩ := p2_ok n hn
  intro j
  induction j with
  | zero => intro _; exact Or.inl ⟨rfl, rfl⟩
  | succ j ih =>
    intro hj
    have hp := q5 j (by omega)
    rw [fwC, fwM]
    rcases ih (by omega) with ⟨e1, e2⟩ | ⟨e1, e2⟩
    · rw [e1, e2, q4]
      by_cases hc : c j = true
      · rw [if_pos ⟨by omega, hc⟩, if_pos ⟨hp, hc⟩]; exact Or.inr ⟨rfl, hp⟩
      · rw [if_neg (fun z => hc z.2), if_neg (fun z => hc z.2)]; exact Or.inl ⟨e1, rfl⟩
    · rw [e1]
      by_cases hc : cntF 8 j < cntF 8 (fwC c (p2 n - 1) j) ∧ c j = true
      · rw [if_pos hc, if_pos hc]; exact Or.inr ⟨rfl, hp⟩
      · rw [if_neg hc, if_neg hc]; exact Or.inr ⟨rfl, e2⟩
theorem fw_eq {c : Nat → Bool} {n : Nat} (hn : n ≤ 8) (hc : c (p2 n - 1) = true) : fwM c (p2 n) = (fwC c (p2 n - 1) (p2 n), cntF 8 (fwC c (p2 n - 1) (p2 n))) := by
  obtain ⟨q1, q2, -, q4, -, -, -⟩ := p2_ok n hn
  have e : fwM c (p2 n) = fwM c (p2 n - 1 + 1) := by rw [show p2 n - 1 + 1 = p2 n by omega]
  have e' : fwC c (p2 n - 1) (p2 n) = fwC c (p2 n - 1) (p2 n - 1 + 1) := by rw [show p2 n - 1 + 1 = p2 n by omega]
  rw [e, e', fwM, fwC]
  rcases fw_inv (c := c) hn (p2 n - 1) (Nat.le_refl _) with ⟨e1, e2⟩ | ⟨e1, e2⟩
  · rw [e1, e2, if_pos ⟨by omega, hc⟩, if_neg (fun z => absurd z.1 (Nat.lt_irrefl _)), q4]
  · rw [e1, if_neg (fun z => absurd z.1 (by show ¬ cntF 8 (p2 n - 1) < cntF 8 (fwC c (p2 n - 1) (p2 n - 1)); omega)), if_neg (fun z => absurd z.1 (by omega))]
def fwB (s : Nat → Int32) (n nt : Nat) : Nat := fwC (covF (sgL s nt) n) (p2 n - 1) (p2 n)
def aFewest (s : Nat → Int32) (n nt : Nat) (w : Int32) : Int32 := if bw w 2 then (if w = nI 0 then nI (fwB s n nt) else nI (cntF 8 (fwB s n nt))) else -1000000001
theorem fwB_lt {s : Nat → Int32} {n nt : Nat} (hn : n ≤ 8) : fwB s n nt < 256 := fwC_lt (by have := (p2_ok n hn).1; have := (p2_ok n hn).2.1; omega) _ (p2_ok n hn).1
set_option maxHeartbeats 4000000 in
set_option maxRecDepth 100000 in
theorem c_W_sightOfSet_l {g : Gl} {d ks : Nat} {h : AH} {ik wc : Int32} (hW : h[0]? = some (wtC g ik wc)) {f : Nat → Int64} (h38 : h[38]? = some (la g 8 f)) (j : Nat) : ∀ (m k : Nat), k + m = 8 → Ex g mX6_sightOfSet d 0 ks 5 [some (.ref (g.1 + 0)), some (.int (nI j)), some (.long (uni (pb (nI j)) f (k))), none, some (.int (nI (k)))] [] h (ql (fun h' r => h' = h ∧ r = uni (pb (nI j)) f 8)) := by
  intro m
  induction m with
  | zero =>
    intro k hk
    refine ex_iload (pc := 5) dX6_sightOfSet_5 rfl ?_
    refine ex_bipush (pc := 7) (v := (nI 8)) dX6_sightOfSet_7 (by decide) ?_
    refine bx_icmp_ge_t (pc := 9) (tgt := 38) dX6_sightOfSet_9 (by decide) (by rw [show k = 8 by omega]; exact Int32.le_refl _) ?_
    refine ex_lload_n (pc := 38) dX6_sightOfSet_38 rfl ?_
    refine ex_lret dX6_sightOfSet_39 rfl ?_
    obtain rfl : k = 8 := by omega
    exact ql_mk ⟨rfl, rfl⟩
  | succ m ih =>
    intro k hk
    refine ex_iload (pc := 5) dX6_sightOfSet_5 rfl ?_
    refine ex_bipush (pc := 7) (v := (nI 8)) dX6_sightOfSet_7 (by decide) ?_
    refine bx_icmp_ge_f (pc := 9) (tgt := 38) dX6_sightOfSet_9 (by decide) (nI_ge (by omega) (by omega)) ?_
    refine ex_iload_n (pc := 12) dX6_sightOfSet_12 rfl ?_
    refine ex_iload (pc := 13) dX6_sightOfSet_13 rfl ?_
    refine ex_ishr (pc := 15) dX6_sightOfSet_15 ?_
    refine ex_iconst (pc := 16) (v := (nI 1)) dX6_sightOfSet_16 (by decide) ?_
    refine ex_iand (pc := 17) dX6_sightOfSet_17 ?_
    refine ex_iconst (pc := 18) (v := (nI 1)) dX6_sightOfSet_18 (by decide) ?_
    refine ex_icmp_ne (pc := 19) (tgt := 32) dX6_sightOfSet_19 (by decide) (fun c_19 => ?_) (fun c_19 => ?_)
    · skip
      first | refine sx_inc (pc := 32) dX6_sightOfSet_32 rfl rfl (by decide) ?_ | refine sx_iinc (pc := 32) dX6_sightOfSet_32 rfl rfl (by decide) ?_
      show Ex _ _ _ _ _ _ [_, _, _, _, _] _ _ _
      refine ex_goto (pc := 35) (tgt := 5) dX6_sightOfSet_35 (by decide) ?_
      have z := ih (k + 1) (by omega)
      rw [uni] at z
      first
      | (rw [if_pos (show pb (nI j) k = true from decide_eq_true c_19)] at z; exact z)
      | (rw [if_neg (show ¬ pb (nI j) k = true from fun q => c_19 (of_decide_eq_true q))] at z; exact z)
    · skip
      refine ex_lload_n (pc := 22) dX6_sightOfSet_22 rfl ?_
      refine ex_aload_n (pc := 23) dX6_sightOfSet_23 rfl ?_
      refine ex_get (pc := 24) dX6_sightOfSet_24 fl_X6_33 hW rfl ?_
      refine ex_iload (pc := 27) dX6_sightOfSet_27 rfl ?_
      refine ex_lldn (k := k) (pc := 29) dX6_sightOfSet_29 h38 rfl (by omega) (by decide) ?_
      refine ex_lor (pc := 30) dX6_sightOfSet_30 ?_
      refine sx_lstore_n (pc := 31) dX6_sightOfSet_31 rfl (by decide) ?_
      show Ex _ _ _ _ _ _ [_, _, _, _, _] _ _ _
      first | refine sx_inc (pc := 32) dX6_sightOfSet_32 rfl rfl (by decide) ?_ | refine sx_iinc (pc := 32) dX6_sightOfSet_32 rfl rfl (by decide) ?_
      show Ex _ _ _ _ _ _ [_, _, _, _, _] _ _ _
      refine ex_goto (pc := 35) (tgt := 5) dX6_sightOfSet_35 (by decide) ?_
      have z := ih (k + 1) (by omega)
      rw [uni] at z
      first
      | (rw [if_pos (show pb (nI j) k = true from decide_eq_true c_19)] at z; exact z)
      | (rw [if_neg (show ¬ pb (nI j) k = true from fun q => c_19 (of_decide_eq_true q))] at z; exact z)
set_option maxHeartbeats 4000000 in
set_option maxRecDepth 100000 in
theorem c_W_sightOfSet {g : Gl} {d ks : Nat} {h : AH} {ik wc : Int32} (hW : h[0]? = some (wtC g ik wc)) {f : Nat → Int64} (h38 : h[38]? = some (la g 8 f)) (j : Nat) : Ex g mX6_sightOfSet d 0 ks 0 [some (.ref (g.1 + 0)), some (.int (nI j)), none, none, none] [] h (ql (fun h' r => h' = h ∧ r = uni (pb (nI j)) f 8)) := by
  refine ex_lconst (pc := 0) (v := 0) dX6_sightOfSet_0 (by decide) ?_
  refine sx_lstore_n (pc := 1) dX6_sightOfSet_1 rfl (by decide) ?_
  show Ex _ _ _ _ _ _ [_, _, _, _, _] _ _ _
  refine ex_iconst (pc := 2) (v := (nI 0)) dX6_sightOfSet_2 (by decide) ?_
  refine sx_istore (pc := 3) dX6_sightOfSet_3 rfl (by decide) ?_
  show Ex _ _ _ _ _ _ [_, _, _, _, _] _ _ _
  exact c_W_sightOfSet_l hW h38 j 8 0 (by omega)
set_option maxHeartbeats 4000000 in
set_option maxRecDepth 100000 in
theorem c_M_together_l {g : Gl} {d ks : Nat} {h : AH} {z s : Nat → Int32} (hM : Ms g h z s) {n : Nat} (hn : s 0 = nI n) (hn8 : n ≤ 8) {f : Nat → Int64} (h87 : h[87]? = some (la g 8 f)) (j : Nat) : ∀ (m k : Nat), k + m = n → Ex g mX7_together d 0 ks 5 [some (.ref (g.1 + 75)), some (.int (nI j)), some (.long (uni (pb (nI j)) f (k))), none, some (.int (nI (k)))] [] h (ql (fun h' r => h' = h ∧ r = uni (pb (nI j)) f n)) := by
  intro m
  induction m with
  | zero =>
    intro k hk
    refine ex_iload (pc := 5) dX7_together_5 rfl ?_
    refine ex_aload_n (pc := 7) dX7_together_7 rfl ?_
    refine ex_get (pc := 8) dX7_together_8 fl_X7_7 hM.1 rfl ?_
    refine ex_iconst (pc := 11) (v := (nI 0)) dX7_together_11 (by decide) ?_
    refine ex_ildn (k := 0) (pc := 12) dX7_together_12 hM.2 rfl (by decide) (by decide) ?_
    refine bx_icmp_ge_t (pc := 13) (tgt := 46) dX7_together_13 (by decide) (by rw [hn, show k = n by omega]; exact Int32.le_refl _) ?_
    refine ex_lload_n (pc := 46) dX7_together_46 rfl ?_
    refine ex_lret dX7_together_47 rfl ?_
    obtain rfl : k = n := by omega
    exact ql_mk ⟨rfl, rfl⟩
  | succ m ih =>
    intro k hk
    refine ex_iload (pc := 5) dX7_together_5 rfl ?_
    refine ex_aload_n (pc := 7) dX7_together_7 rfl ?_
    refine ex_get (pc := 8) dX7_together_8 fl_X7_7 hM.1 rfl ?_
    refine ex_iconst (pc := 11) (v := (nI 0)) dX7_together_11 (by decide) ?_
    refine ex_ildn (k := 0) (pc := 12) dX7_together_12 hM.2 rfl (by decide) (by decide) ?_
    refine bx_icmp_ge_f (pc := 13) (tgt := 46) dX7_together_13 (by decide) (by rw [hn]; exact nI_ge (by omega) (by omega)) ?_
    refine ex_lload_n (pc := 16) dX7_together_16 rfl ?_
    refine ex_iload_n (pc := 17) dX7_together_17 rfl ?_
    refine ex_iload (pc := 18) dX7_together_18 rfl ?_
    refine ex_ishr (pc := 20) dX7_together_20 ?_
    refine ex_iconst (pc := 21) (v := (nI 1)) dX7_together_21 (by decide) ?_
    refine ex_iand (pc := 22) dX7_together_22 ?_
    refine ex_iconst (pc := 23) (v := (nI 1)) dX7_together_23 (by decide) ?_
    refine ex_icmp_ne (pc := 24) (tgt := 37) dX7_together_24 (by decide) (fun c_24 => ?_) (fun c_24 => ?_)
    · skip
      refine ex_lconst (pc := 37) (v := 0) dX7_together_37 (by decide) ?_
      refine ex_lor (pc := 38) dX7_together_38 ?_
      refine sx_lstore_n (pc := 39) dX7_together_39 rfl (by decide) ?_
      show Ex _ _ _ _ _ _ [_, _, _, _, _] _ _ _
      first | refine sx_inc (pc := 40) dX7_together_40 rfl rfl (by decide) ?_ | refine sx_iinc (pc := 40) dX7_together_40 rfl rfl (by decide) ?_
      show Ex _ _ _ _ _ _ [_, _, _, _, _] _ _ _
      refine ex_goto (pc := 43) (tgt := 5) dX7_together_43 (by decide) ?_
      have z := ih (k + 1) (by omega)
      rw [uni] at z
      first
      | (rw [if_pos (show pb (nI j) k = true from decide_eq_true c_24)] at z; exact z)
      | (rw [if_neg (show ¬ pb (nI j) k = true from fun q => c_24 (of_decide_eq_true q))] at z; rw [or0L]; exact z)
    · skip
      refine ex_aload_n (pc := 27) dX7_together_27 rfl ?_
      refine ex_get (pc := 28) dX7_together_28 fl_X7_43 hM.1 rfl ?_
      refine ex_iload (pc := 31) dX7_together_31 rfl ?_
      refine ex_lldn (k := k) (pc := 33) dX7_together_33 h87 rfl (by omega) (by decide) ?_
      refine ex_goto (pc := 34) (tgt := 38) dX7_together_34 (by decide) ?_
      refine ex_lor (pc := 38) dX7_together_38 ?_
      refine sx_lstore_n (pc := 39) dX7_together_39 rfl (by decide) ?_
      show Ex _ _ _ _ _ _ [_, _, _, _, _] _ _ _
      first | refine sx_inc (pc := 40) dX7_together_40 rfl rfl (by decide) ?_ | refine sx_iinc (pc := 40) dX7_together_40 rfl rfl (by decide) ?_
      show Ex _ _ _ _ _ _ [_, _, _, _, _] _ _ _
      refine ex_goto (pc := 43) (tgt := 5) dX7_together_43 (by decide) ?_
      have z := ih (k + 1) (by omega)
      rw [uni] at z
      first
      | (rw [if_pos (show pb (nI j) k = true from decide_eq_true c_24)] at z; exact z)
      | (rw [if_neg (show ¬ pb (nI j) k = true from fun q => c_24 (of_decide_eq_true q))] at z; rw [or0L]; exact z)
set_option maxHeartbeats 4000000 in
set_option maxRecDepth 100000 in
theorem c_M_together {g : Gl} {d ks : Nat} {h : AH} {z s : Nat → Int32} (hM : Ms g h z s) {n : Nat} (hn : s 0 = nI n) (hn8 : n ≤ 8) {f : Nat → Int64} (h87 : h[87]? = some (la g 8 f)) (j : Nat) : Ex g mX7_together d 0 ks 0 [some (.ref (g.1 + 75)), some (.int (nI j)), none, none, none] [] h (ql (fun h' r => h' = h ∧ r = uni (pb (nI j)) f n)) := by
  refine ex_lconst (pc := 0) (v := 0) dX7_together_0 (by decide) ?_
  refine sx_lstore_n (pc := 1) dX7_together_1 rfl (by decide) ?_
  show Ex _ _ _ _ _ _ [_, _, _, _, _] _ _ _
  refine ex_iconst (pc := 2) (v := (nI 0)) dX7_together_2 (by decide) ?_
  refine sx_istore (pc := 3) dX7_together_3 rfl (by decide) ?_
  show Ex _ _ _ _ _ _ [_, _, _, _, _] _ _ _
  exact c_M_together_l hM hn hn8 h87 j n 0 (by omega)
theorem cnt8_lt (x : Nat) : cntF 8 x < 2147483648 := by
  have e : cntF 8 x = cntF (0 + 8) x := rfl
  rw [e, cnt_8]
  have : cntF 0 (x / 2 / 2 / 2 / 2 / 2 / 2 / 2 / 2) = 0 := rfl
  rw [this]
  omega
set_option maxHeartbeats 4000000 in
set_option maxRecDepth 100000 in
theorem c_W_fewest_2 {g : Gl} {d ks : Nat} {h : AH} {ik wc : Int32} {s : Nat → Int32} {n nt : Nat} (hW : h[0]? = some (wtC g ik wc)) (hC : CR g h 1 s n nt) (hd : 1 ≤ d) {f : Nat → Int64} (h38 : h[38]? = some (la g 8 f)) (hf : ∀ k, k < n → f k = sgL s nt k) : ∀ (m j : Nat), j + m = p2 n → Ex g mX6_fewestPosts d 0 ks 67 [some (.ref (g.1 + 0)), some (.long (uni (fun _ => true) (sgL s nt) n)), none, some (.int (nI (fwC (covF (sgL s nt) n) (p2 n - 1) (j)))), some (.int (nI (j)))] [] h (qi (fun h' r => h' = h ∧ r = nI (fwB s n nt))) := by
  have hR := hC.1
  have hn8 := hC.2.1.2.1
  have hN := hR.2.1
  obtain ⟨hp1, hp2, hp3, -, -, -, -⟩ := p2_ok n hn8
  intro m
  induction m with
  | zero =>
    intro j hj
    refine ex_iload (pc := 67) dX6_fewestPosts_67 rfl ?_
    refine ex_iconst (pc := 69) (v := (nI 1)) dX6_fewestPosts_69 (by decide) ?_
    refine ex_aload_n (pc := 70) dX6_fewestPosts_70 rfl ?_
    refine ex_get (pc := 71) dX6_fewestPosts_71 fl_X6_10 hW rfl ?_
    refine ex_get (pc := 74) dX6_fewestPosts_74 fl_X6_79 hR.1 rfl ?_
    refine ex_ishl (pc := 77) dX6_fewestPosts_77 ?_
    refine bx_icmp_ge_t (pc := 78) (tgt := 113) dX6_fewestPosts_78 (by decide) (by rw [hN, hp3, show j = p2 n by omega]; exact Int32.le_refl _) ?_
    refine ex_iload_n (pc := 113) dX6_fewestPosts_113 rfl ?_
    refine ex_ret dX6_fewestPosts_114 rfl ?_
    obtain rfl : j = p2 n := by omega
    exact qi_mk ⟨rfl, rfl⟩
  | succ m ih =>
    intro j hj
    refine ex_iload (pc := 67) dX6_fewestPosts_67 rfl ?_
    refine ex_iconst (pc := 69) (v := (nI 1)) dX6_fewestPosts_69 (by decide) ?_
    refine ex_aload_n (pc := 70) dX6_fewestPosts_70 rfl ?_
    refine ex_get (pc := 71) dX6_fewestPosts_71 fl_X6_10 hW rfl ?_
    refine ex_get (pc := 74) dX6_fewestPosts_74 fl_X6_79 hR.1 rfl ?_
    refine ex_ishl (pc := 77) dX6_fewestPosts_77 ?_
    refine bx_icmp_ge_f (pc := 78) (tgt := 113) dX6_fewestPosts_78 (by decide) (by rw [hN, hp3]; exact nI_ge (by omega) (by omega)) ?_
    refine ex_iload (pc := 81) dX6_fewestPosts_81 rfl ?_
    refine cx_SL1i (pc := 83) dX6_fewestPosts_83 lk_X6_198 rfl (Nat.le_of_ble_eq_true rfl) (Nat.le_of_ble_eq_true rfl) (by omega) (c_ibc (k := j) (by omega)) (fun h_83 x_83 q_83 => ?_)
    obtain ⟨e_83, f_83⟩ := q_83
    rw [e_83, f_83]
    refine ex_iload_n (pc := 86) dX6_fewestPosts_86 rfl ?_
    refine cx_SL1i (pc := 87) dX6_fewestPosts_87 lk_X6_198 rfl (Nat.le_of_ble_eq_true rfl) (Nat.le_of_ble_eq_true rfl) (by omega) (c_ibc (k := fwC (covF (sgL s nt) n) (p2 n - 1) j) (fwC_lt (by omega) j (by omega))) (fun h_87 x_87 q_87 => ?_)
    obtain ⟨e_87, f_87⟩ := q_87
    rw [e_87, f_87]
    refine ex_icmp_ge (pc := 90) (tgt := 107) dX6_fewestPosts_90 (by decide) (fun c_90 => ?_) (fun c_90 => ?_)
    · skip
      first | refine sx_inc (pc := 107) dX6_fewestPosts_107 rfl rfl (by decide) ?_ | refine sx_iinc (pc := 107) dX6_fewestPosts_107 rfl rfl (by decide) ?_
      show Ex _ _ _ _ _ _ [_, _, _, _, _] _ _ _
      refine ex_goto (pc := 110) (tgt := 67) dX6_fewestPosts_110 (by decide) ?_
      have z := ih (j + 1) (by omega)
      rw [fwC] at z
      first
      | (rw [if_pos ⟨(nI_ltI (cnt8_lt _) (cnt8_lt _)).mp (Int32.not_le.mp c_90), decide_eq_true ((lg_eq0 _ _).mp c_101)⟩] at z; exact z)
      | (rw [if_neg (fun q => c_101 ((lg_eq0 _ _).mpr (of_decide_eq_true q.2)))] at z; exact z)
      | (rw [if_neg (fun q => absurd (nI_lt q.1 (cnt8_lt _)) (Int32.not_lt.mpr c_90))] at z; exact z)
    · skip
      refine ex_aload_n (pc := 93) dX6_fewestPosts_93 rfl ?_
      refine ex_iload (pc := 94) dX6_fewestPosts_94 rfl ?_
      refine cx_VL1l (pc := 96) dX6_fewestPosts_96 lk_X6_333 hW rfl (Nat.le_of_ble_eq_true rfl) (Nat.le_of_ble_eq_true rfl) (by omega) (c_W_sightOfSet hW h38 j) (fun h_96 x_96 q_96 => ?_)
      obtain ⟨e_96, f_96⟩ := q_96
      rw [e_96, f_96, tog_8 hn8 (show j < p2 n by omega) hf]
      refine ex_lload_n (pc := 99) dX6_fewestPosts_99 rfl ?_
      refine ex_lcmp (pc := 100) dX6_fewestPosts_100 ?_
      refine ex_if_ne (pc := 101) (tgt := 107) dX6_fewestPosts_101 (by decide) (fun c_101 => ?_) (fun c_101 => ?_)
      · skip
        first | refine sx_inc (pc := 107) dX6_fewestPosts_107 rfl rfl (by decide) ?_ | refine sx_iinc (pc := 107) dX6_fewestPosts_107 rfl rfl (by decide) ?_
        show Ex _ _ _ _ _ _ [_, _, _, _, _] _ _ _
        refine ex_goto (pc := 110) (tgt := 67) dX6_fewestPosts_110 (by decide) ?_
        have z := ih (j + 1) (by omega)
        rw [fwC] at z
        first
        | (rw [if_pos ⟨(nI_ltI (cnt8_lt _) (cnt8_lt _)).mp (Int32.not_le.mp c_90), decide_eq_true ((lg_eq0 _ _).mp c_101)⟩] at z; exact z)
        | (rw [if_neg (fun q => c_101 ((lg_eq0 _ _).mpr (of_decide_eq_true q.2)))] at z; exact z)
        | (rw [if_neg (fun q => absurd (nI_lt q.1 (cnt8_lt _)) (Int32.not_lt.mpr c_90))] at z; exact z)
      · skip
        refine ex_iload (pc := 104) dX6_fewestPosts_104 rfl ?_
        refine sx_istore_n (pc := 106) dX6_fewestPosts_106 rfl (by decide) ?_
        show Ex _ _ _ _ _ _ [_, _, _, _, _] _ _ _
        first | refine sx_inc (pc := 107) dX6_fewestPosts_107 rfl rfl (by decide) ?_ | refine sx_iinc (pc := 107) dX6_fewestPosts_107 rfl rfl (by decide) ?_
        show Ex _ _ _ _ _ _ [_, _, _, _, _] _ _ _
        refine ex_goto (pc := 110) (tgt := 67) dX6_fewestPosts_110 (by decide) ?_
        have z := ih (j + 1) (by omega)
        rw [fwC] at z
        first
        | (rw [if_pos ⟨(nI_ltI (cnt8_lt _) (cnt8_lt _)).mp (Int32.not_le.mp c_90), decide_eq_true ((lg_eq0 _ _).mp c_101)⟩] at z; exact z)
        | (rw [if_neg (fun q => c_101 ((lg_eq0 _ _).mpr (of_decide_eq_true q.2)))] at z; exact z)
        | (rw [if_neg (fun q => absurd (nI_lt q.1 (cnt8_lt _)) (Int32.not_lt.mpr c_90))] at z; exact z)
set_option maxHeartbeats 4000000 in
set_option maxRecDepth 100000 in
theorem c_W_fewest_1 {g : Gl} {d ks : Nat} {h : AH} {ik wc : Int32} {s : Nat → Int32} {n nt : Nat} (hn8 : n ≤ 8) (hd : 4 ≤ d) : ∀ (m k : Nat) (h1 : AH), h1[0]? = some (wtC g ik wc) → CR g h1 1 s n nt → ThB g h1 → FrX thX g h h1 → ∀ (f : Nat → Int64), h1[38]? = some (la g 8 f) → (∀ j, j < k → f j = sgL s nt j) → k + m = n → Ex g mX6_fewestPosts d 0 ks 4 [some (.ref (g.1 + 0)), some (.long (uni (fun _ => true) (sgL s nt) (k))), none, some (.int (nI (k))), none] [] h1 (qi (fun h' r => (ThB g h' ∧ FrX thX g h h') ∧ r = nI (fwB s n nt))) := by
  obtain ⟨hp1, hp2, hp3, -, -, -, -⟩ := p2_ok n hn8
  intro m
  induction m with
  | zero =>
    intro k h1 hW1 hC1 hT1 hF f h38 hf hk
    have hN1 := hC1.1.2.1
    refine ex_iload_n (pc := 4) dX6_fewestPosts_4 rfl ?_
    refine ex_aload_n (pc := 5) dX6_fewestPosts_5 rfl ?_
    refine ex_get (pc := 6) dX6_fewestPosts_6 fl_X6_10 hW1 rfl ?_
    refine ex_get (pc := 9) dX6_fewestPosts_9 fl_X6_79 hC1.1.1 rfl ?_
    refine bx_icmp_ge_t (pc := 12) (tgt := 52) dX6_fewestPosts_12 (by decide) (by rw [hN1, show k = n by omega]; exact Int32.le_refl _) ?_
    refine ex_iconst (pc := 52) (v := (nI 1)) dX6_fewestPosts_52 (by decide) ?_
    refine ex_aload_n (pc := 53) dX6_fewestPosts_53 rfl ?_
    refine ex_get (pc := 54) dX6_fewestPosts_54 fl_X6_10 hW1 rfl ?_
    refine ex_get (pc := 57) dX6_fewestPosts_57 fl_X6_79 hC1.1.1 rfl ?_
    refine ex_ishl (pc := 60) dX6_fewestPosts_60 ?_
    rw [hN1, hp3]
    refine ex_iconst (pc := 61) (v := (nI 1)) dX6_fewestPosts_61 (by decide) ?_
    refine ex_isub (pc := 62) dX6_fewestPosts_62 ?_
    refine sx_istore_n (pc := 63) dX6_fewestPosts_63 rfl (by decide) ?_
    show Ex _ _ _ _ _ _ [_, _, _, _, _] _ _ _
    refine ex_iconst (pc := 64) (v := (nI 0)) dX6_fewestPosts_64 (by decide) ?_
    refine sx_istore (pc := 65) dX6_fewestPosts_65 rfl (by decide) ?_
    show Ex _ _ _ _ _ _ [_, _, _, _, _] _ _ _
    obtain rfl : n = k := by omega
    rw [nI_sub hp2]
    refine (c_W_fewest_2 hW1 hC1 (by omega) h38 (fun j hj => hf j (by omega)) (p2 n) 0 (by omega)).mono (fun h' r a => ?_)
    obtain ⟨x, e, a1, a2⟩ := a
    rw [a1]
    exact ⟨x, e, ⟨hT1, hF⟩, a2⟩
  | succ m ih =>
    intro k h1 hW1 hC1 hT1 hF f h38 hf hk
    have hN1 := hC1.1.2.1
    obtain ⟨fp, hfp, hfp2⟩ := hC1.1.2.2.2.1
    refine ex_iload_n (pc := 4) dX6_fewestPosts_4 rfl ?_
    refine ex_aload_n (pc := 5) dX6_fewestPosts_5 rfl ?_
    refine ex_get (pc := 6) dX6_fewestPosts_6 fl_X6_10 hW1 rfl ?_
    refine ex_get (pc := 9) dX6_fewestPosts_9 fl_X6_79 hC1.1.1 rfl ?_
    refine bx_icmp_ge_f (pc := 12) (tgt := 52) dX6_fewestPosts_12 (by decide) (by rw [hN1]; exact nI_ge (by omega) (by omega)) ?_
    refine ex_aload_n (pc := 15) dX6_fewestPosts_15 rfl ?_
    refine ex_get (pc := 16) dX6_fewestPosts_16 fl_X6_33 hW1 rfl ?_
    refine ex_iload_n (pc := 19) dX6_fewestPosts_19 rfl ?_
    refine ex_aload_n (pc := 20) dX6_fewestPosts_20 rfl ?_
    refine ex_get (pc := 21) dX6_fewestPosts_21 fl_X6_10 hW1 rfl ?_
    refine ex_aload_n (pc := 24) dX6_fewestPosts_24 rfl ?_
    refine ex_get (pc := 25) dX6_fewestPosts_25 fl_X6_10 hW1 rfl ?_
    refine ex_get (pc := 28) dX6_fewestPosts_28 fl_X6_90 hC1.1.1 rfl ?_
    refine ex_iload_n (pc := 31) dX6_fewestPosts_31 rfl ?_
    refine ex_aldn (k := k) (v := .ref (g.1 + (1 + 4 + k))) (pc := 32) dX6_fewestPosts_32 rfl hfp rfl (by omega) (by decide) (congrArg va_rf (hfp2 k (by omega))) ?_
    refine cx_VL1l (pc := 33) dX6_fewestPosts_33 lk_X6_120 hC1.1.1 rfl (Nat.le_of_ble_eq_true rfl) (Nat.le_of_ble_eq_true rfl) (by omega) (c_R_sgt hC1 (by omega) (show k < n by omega)) (fun h_33 x_33 q_33 => ?_)
    obtain ⟨hs_33, f_33⟩ := q_33
    rw [f_33]
    refine ex_lstn (k := k) (pc := 36) dX6_fewestPosts_36 (hs_33.at (nscr (by omega)) h38) rfl (by omega) (by decide) ?_
    have f2 : FrX thX g h_33 (h_33.set 38 (la g 8 (vp_updL f k (sgL s nt k)))) := FrX.st ⟨by omega, by omega⟩ (nscr (by omega))
    have h38b : (h_33.set 38 (la g 8 (vp_updL f k (sgL s nt k))))[38]? = some (la g 8 (vp_updL f k (sgL s nt k))) := gs_eq (hs_33.at (nscr (by omega)) h38)
    have hW2 := gs_ne (q := 38) (c := la g 8 (vp_updL f k (sgL s nt k))) (by decide) (hs_33.at (nscr (by omega)) hW1)
    have hT2 : ThB g (h_33.set 38 (la g 8 (vp_updL f k (sgL s nt k)))) := by
      obtain ⟨t1, ⟨x, y, u, v, t2⟩, t3, ff, t4⟩ := hT1.sq hs_33
      exact ⟨t1.fr (S := fun q => q = 38) (by omega) (FrX.st rfl (nscr (by omega))) (fun q hq z => by have := hq.2; omega), ⟨x, y, u, v, gs_ne (by decide) t2⟩, ⟨_, h38b⟩, ff, gs_ne (by decide) t4⟩
    have hC2 : CR g (h_33.set 38 (la g 8 (vp_updL f k (sgL s nt k)))) 1 s n nt := (hC1.sq hs_33).fr (S := fun q => q = 38) (FrX.st rfl (nscr (by omega))) (fun q hq => by unfold rgX at hq; omega)
    refine ex_lload_n (pc := 37) dX6_fewestPosts_37 rfl ?_
    refine ex_aload_n (pc := 38) dX6_fewestPosts_38 rfl ?_
    refine ex_get (pc := 39) dX6_fewestPosts_39 fl_X6_33 hW2 rfl ?_
    refine ex_iload_n (pc := 42) dX6_fewestPosts_42 rfl ?_
    refine ex_lldn (k := k) (pc := 43) dX6_fewestPosts_43 h38b rfl (by omega) (by decide) ?_
    refine ex_lor (pc := 44) dX6_fewestPosts_44 ?_
    refine sx_lstore_n (pc := 45) dX6_fewestPosts_45 rfl (by decide) ?_
    show Ex _ _ _ _ _ _ [_, _, _, _, _] _ _ _
    first | refine sx_inc (pc := 46) dX6_fewestPosts_46 rfl rfl (by decide) ?_ | refine sx_iinc (pc := 46) dX6_fewestPosts_46 rfl rfl (by decide) ?_
    show Ex _ _ _ _ _ _ [_, _, _, _, _] _ _ _
    refine ex_goto (pc := 49) (tgt := 4) dX6_fewestPosts_49 (by decide) ?_
    have z := ih (k + 1) _ hW2 hC2 hT2 ((hF.tr hs_33.fr).tr f2) _ h38b (fun j hj => by
      by_cases e : j = k
      · subst e; exact pk_uLs
      · rw [pk_uLn e]; exact hf j (by omega)) (by omega)
    rw [uni, if_pos rfl] at z
    rw [show vp_updL f k (sgL s nt k) k = sgL s nt k from pk_uLs]
    exact z
set_option maxHeartbeats 4000000 in
set_option maxRecDepth 100000 in
theorem c_W_fewestPosts {g : Gl} {d ks : Nat} {h : AH} {ik wc : Int32} {s : Nat → Int32} {n nt : Nat} (hW : h[0]? = some (wtC g ik wc)) (hC : CR g h 1 s n nt) (hT : ThB g h) (hd : 4 ≤ d) : Ex g mX6_fewestPosts d 0 ks 0 [some (.ref (g.1 + 0)), none, none, none, none] [] h (qi (fun h' r => (ThB g h' ∧ FrX thX g h h') ∧ r = nI (fwB s n nt))) := by
  obtain ⟨f, h38⟩ := hT.2.2.1
  refine ex_lconst (pc := 0) (v := 0) dX6_fewestPosts_0 (by decide) ?_
  refine sx_lstore_n (pc := 1) dX6_fewestPosts_1 rfl (by decide) ?_
  show Ex _ _ _ _ _ _ [_, _, _, _, _] _ _ _
  refine ex_iconst (pc := 2) (v := (nI 0)) dX6_fewestPosts_2 (by decide) ?_
  refine sx_istore_n (pc := 3) dX6_fewestPosts_3 rfl (by decide) ?_
  show Ex _ _ _ _ _ _ [_, _, _, _, _] _ _ _
  exact c_W_fewest_1 hC.2.1.2.1 hd n 0 h hW hC hT FrX.rf f h38 (fun j hj => absurd hj (by omega)) (by omega)
set_option maxHeartbeats 4000000 in
set_option maxRecDepth 100000 in
theorem c_W_fewest {g : Gl} {d ks : Nat} {h : AH} {ik wc : Int32} {s : Nat → Int32} {n nt : Nat} (hW : h[0]? = some (wtC g ik wc)) (hC : CR g h 1 s n nt) (hT : ThB g h) (hd : 5 ≤ d) (w : Int32) : Ex g mX6_fewest d 0 ks 0 [some (.ref (g.1 + 0)), some (.int w), none] [] h (qi (fun h' r => (ThB g h' ∧ FrX thX g h h') ∧ r = aFewest s n nt w)) := by
  have hR := hC.1
  have hP := hC.2.1
  have hn8 := hP.2.1
  have hN := hR.2.1
  obtain ⟨fp, hfp, hfp2⟩ := hR.2.2.2.1
  refine ex_iload_n (pc := 0) dX6_fewest_0 rfl ?_
  refine ex_iconst (pc := 1) (v := (nI 2)) dX6_fewest_1 (by decide) ?_
  refine cx_SL2i (pc := 2) dX6_fewest_2 lk_X6_69 rfl (Nat.le_of_ble_eq_true rfl) (Nat.le_of_ble_eq_true rfl) (by omega) (c_ib _ _) (fun h_2 x_2 q_2 => ?_)
  obtain ⟨e_2, f_2⟩ := q_2
  rw [e_2, f_2]
  refine ex_if_ne (pc := 5) (tgt := 11) dX6_fewest_5 (by decide) (fun c_5 => ?_) (fun c_5 => ?_)
  · skip
    have b_5 := bT c_5
    refine ex_aload_n (pc := 11) dX6_fewest_11 rfl ?_
    refine cx_VL0i (pc := 12) dX6_fewest_12 lk_X6_195 hW rfl (Nat.le_of_ble_eq_true rfl) (Nat.le_of_ble_eq_true rfl) (by omega) (c_W_fewestPosts hW hC hT (by omega)) (fun h_12 x_12 q_12 => ?_)
    obtain ⟨hs_12, f_12⟩ := q_12
    rw [f_12]
    refine sx_istore_n (pc := 15) dX6_fewest_15 rfl (by decide) ?_
    show Ex _ _ _ _ _ _ [_, _, _] _ _ _
    refine ex_iload_n (pc := 16) dX6_fewest_16 rfl ?_
    refine ex_if_ne (pc := 17) (tgt := 24) dX6_fewest_17 (by decide) (fun c_17 => ?_) (fun c_17 => ?_)
    · skip
      refine ex_iload_n (pc := 24) dX6_fewest_24 rfl ?_
      refine cx_SL1i (pc := 25) dX6_fewest_25 lk_X6_198 rfl (Nat.le_of_ble_eq_true rfl) (Nat.le_of_ble_eq_true rfl) (by omega) (c_ibc (fwB_lt hn8)) (fun h_25 x_25 q_25 => ?_)
      obtain ⟨e_25, f_25⟩ := q_25
      rw [e_25, f_25]
      refine ex_ret dX6_fewest_28 rfl ?_
      refine qi_mk ⟨hs_12, ?_⟩
      simp only [aFewest, b_5, show ¬ w = nI 0 from c_17, Bool.and_self, Bool.and_true, Bool.true_and, Bool.and_false, Bool.false_and, Bool.or_true, Bool.true_or, Bool.or_false, Bool.false_or, Bool.not_true, Bool.not_false, Bool.false_eq_true, ↓reduceIte]
    · skip
      refine ex_iload_n (pc := 20) dX6_fewest_20 rfl ?_
      refine ex_goto (pc := 21) (tgt := 28) dX6_fewest_21 (by decide) ?_
      refine ex_ret dX6_fewest_28 rfl ?_
      refine qi_mk ⟨hs_12, ?_⟩
      have c0 : w = nI 0 := c_17
      subst c0
      simp only [aFewest, b_5, Bool.and_self, Bool.and_true, Bool.true_and, Bool.and_false, Bool.false_and, Bool.or_true, Bool.true_or, Bool.or_false, Bool.false_or, Bool.not_true, Bool.not_false, Bool.false_eq_true, ↓reduceIte]
  · skip
    have b_5 := bF c_5
    refine ex_ldc (pc := 8) dX6_fewest_8 cn_X6_73 ?_
    refine ex_ret dX6_fewest_10 rfl ?_
    refine qi_mk ⟨⟨hT, FrX.rf⟩, ?_⟩
    simp [aFewest, b_5]
theorem fwM_lt {c : Nat → Bool} (j : Nat) : (fwM c j).2 < 2147483648 := by
  induction j with
  | zero => show 9 < 2147483648; decide
  | succ j ih =>
    rw [fwM]
    split
    · exact cnt8_lt _
    · exact ih
set_option maxHeartbeats 4000000 in
set_option maxRecDepth 100000 in
theorem c_M_fewest_2 {g : Gl} {d ks : Nat} {h : AH} {z s : Nat → Int32} {n nt : Nat} (hR : MR g h z s n nt) (hd : 1 ≤ d) {f : Nat → Int64} (h87 : h[87]? = some (la g 8 f)) (hf : ∀ k, k < n → f k = sgL s nt k) (w : Int32) : ∀ (m j : Nat), j + m = p2 n → Ex g mX7_fewest d 0 ks 61 [some (.ref (g.1 + 75)), some (.int w), some (.long (uni (fun _ => true) (sgL s nt) n)), none, some (.int (nI (fwM (covF (sgL s nt) n) (j)).1)), some (.int (nI (fwM (covF (sgL s nt) n) (j)).2)), some (.int (nI (j)))] [] h (qi (fun h' r => h' = h ∧ r = (if w = nI 0 then nI (fwB s n nt) else nI (cntF 8 (fwB s n nt))))) := by
  have hM := hR.1
  have hP := hR.2.1
  have hn8 := hP.2.1
  have hN := hP.1
  obtain ⟨hp1, hp2, hp3, -, -, -, -⟩ := p2_ok n hn8
  intro m
  induction m with
  | zero =>
    intro j hj
    refine ex_iload (pc := 61) dX7_fewest_61 rfl ?_
    refine ex_aload_n (pc := 63) dX7_fewest_63 rfl ?_
    refine cx_VL0i (pc := 64) dX7_fewest_64 lk_X7_139 hM.1 rfl (Nat.le_of_ble_eq_true rfl) (Nat.le_of_ble_eq_true rfl) (by omega) (c_M_everybody hR) (fun h_64 x_64 q_64 => ?_)
    obtain ⟨e_64, f_64⟩ := q_64
    rw [e_64, f_64, hp3, nI_sub hp2]
    refine bx_icmp_gt_t (pc := 67) (tgt := 110) dX7_fewest_67 (by decide) (nI_lt (by omega) (by omega)) ?_
    refine ex_iload_n (pc := 110) dX7_fewest_110 rfl ?_
    refine ex_if_ne (pc := 111) (tgt := 119) dX7_fewest_111 (by decide) (fun c_111 => ?_) (fun c_111 => ?_)
    · skip
      refine ex_iload (pc := 119) dX7_fewest_119 rfl ?_
      refine ex_ret dX7_fewest_121 rfl ?_
      refine qi_mk ⟨rfl, ?_⟩
      rw [show j = p2 n by omega, fw_eq hn8 (decide_eq_true (cov_all hn8))]
      rw [if_neg (show ¬ w = nI 0 from c_111)]
      rfl
    · skip
      refine ex_iload (pc := 114) dX7_fewest_114 rfl ?_
      refine ex_goto (pc := 116) (tgt := 121) dX7_fewest_116 (by decide) ?_
      refine ex_ret dX7_fewest_121 rfl ?_
      refine qi_mk ⟨rfl, ?_⟩
      rw [show j = p2 n by omega, fw_eq hn8 (decide_eq_true (cov_all hn8))]
      rw [if_pos (show w = nI 0 from c_111)]
      rfl
  | succ m ih =>
    intro j hj
    refine ex_iload (pc := 61) dX7_fewest_61 rfl ?_
    refine ex_aload_n (pc := 63) dX7_fewest_63 rfl ?_
    refine cx_VL0i (pc := 64) dX7_fewest_64 lk_X7_139 hM.1 rfl (Nat.le_of_ble_eq_true rfl) (Nat.le_of_ble_eq_true rfl) (by omega) (c_M_everybody hR) (fun h_64 x_64 q_64 => ?_)
    obtain ⟨e_64, f_64⟩ := q_64
    rw [e_64, f_64, hp3, nI_sub hp2]
    refine bx_icmp_gt_f (pc := 67) (tgt := 110) dX7_fewest_67 (by decide) (nI_nlt (by omega) (by omega)) ?_
    refine ex_iload (pc := 70) dX7_fewest_70 rfl ?_
    refine ex_i2l (pc := 72) dX7_fewest_72 ?_
    refine cx_SL1i (pc := 73) dX7_fewest_73 lk_X7_176 rfl (Nat.le_of_ble_eq_true rfl) (Nat.le_of_ble_eq_true rfl) (by omega) (c_M_many _) (fun h_73 x_73 q_73 => ?_)
    obtain ⟨e_73, f_73⟩ := q_73
    rw [e_73, f_73, (bcI_eq j (by omega)).2]
    refine ex_iload (pc := 76) dX7_fewest_76 rfl ?_
    refine ex_icmp_ge (pc := 78) (tgt := 104) dX7_fewest_78 (by decide) (fun c_78 => ?_) (fun c_78 => ?_)
    · skip
      first | refine sx_inc (pc := 104) dX7_fewest_104 rfl rfl (by decide) ?_ | refine sx_iinc (pc := 104) dX7_fewest_104 rfl rfl (by decide) ?_
      show Ex _ _ _ _ _ _ [_, _, _, _, _, _, _] _ _ _
      refine ex_goto (pc := 107) (tgt := 61) dX7_fewest_107 (by decide) ?_
      have z := ih (j + 1) (by omega)
      rw [fwM] at z
      first
      | (rw [if_pos ⟨(nI_ltI (cnt8_lt _) (fwM_lt _)).mp (Int32.not_le.mp c_78), decide_eq_true ((lg_eq0 _ _).mp c_89)⟩] at z; exact z)
      | (rw [if_neg (fun q => c_89 ((lg_eq0 _ _).mpr (of_decide_eq_true q.2)))] at z; exact z)
      | (rw [if_neg (fun q => absurd (nI_lt q.1 (fwM_lt _)) (Int32.not_lt.mpr c_78))] at z; exact z)
    · skip
      refine ex_aload_n (pc := 81) dX7_fewest_81 rfl ?_
      refine ex_iload (pc := 82) dX7_fewest_82 rfl ?_
      refine cx_VL1l (pc := 84) dX7_fewest_84 lk_X7_223 hM.1 rfl (Nat.le_of_ble_eq_true rfl) (Nat.le_of_ble_eq_true rfl) (by omega) (c_M_together hM hN hn8 h87 j) (fun h_84 x_84 q_84 => ?_)
      obtain ⟨e_84, f_84⟩ := q_84
      rw [e_84, f_84, uni_S (P := pb (nI j)) hf]
      refine ex_lload_n (pc := 87) dX7_fewest_87 rfl ?_
      refine ex_lcmp (pc := 88) dX7_fewest_88 ?_
      refine ex_if_ne (pc := 89) (tgt := 104) dX7_fewest_89 (by decide) (fun c_89 => ?_) (fun c_89 => ?_)
      · skip
        first | refine sx_inc (pc := 104) dX7_fewest_104 rfl rfl (by decide) ?_ | refine sx_iinc (pc := 104) dX7_fewest_104 rfl rfl (by decide) ?_
        show Ex _ _ _ _ _ _ [_, _, _, _, _, _, _] _ _ _
        refine ex_goto (pc := 107) (tgt := 61) dX7_fewest_107 (by decide) ?_
        have z := ih (j + 1) (by omega)
        rw [fwM] at z
        first
        | (rw [if_pos ⟨(nI_ltI (cnt8_lt _) (fwM_lt _)).mp (Int32.not_le.mp c_78), decide_eq_true ((lg_eq0 _ _).mp c_89)⟩] at z; exact z)
        | (rw [if_neg (fun q => c_89 ((lg_eq0 _ _).mpr (of_decide_eq_true q.2)))] at z; exact z)
        | (rw [if_neg (fun q => absurd (nI_lt q.1 (fwM_lt _)) (Int32.not_lt.mpr c_78))] at z; exact z)
      · skip
        refine ex_iload (pc := 92) dX7_fewest_92 rfl ?_
        refine sx_istore (pc := 94) dX7_fewest_94 rfl (by decide) ?_
        show Ex _ _ _ _ _ _ [_, _, _, _, _, _, _] _ _ _
        refine ex_iload (pc := 96) dX7_fewest_96 rfl ?_
        refine ex_i2l (pc := 98) dX7_fewest_98 ?_
        refine cx_SL1i (pc := 99) dX7_fewest_99 lk_X7_176 rfl (Nat.le_of_ble_eq_true rfl) (Nat.le_of_ble_eq_true rfl) (by omega) (c_M_many _) (fun h_99 x_99 q_99 => ?_)
        obtain ⟨e_99, f_99⟩ := q_99
        rw [e_99, f_99, (bcI_eq j (by omega)).2]
        refine sx_istore (pc := 102) dX7_fewest_102 rfl (by decide) ?_
        show Ex _ _ _ _ _ _ [_, _, _, _, _, _, _] _ _ _
        first | refine sx_inc (pc := 104) dX7_fewest_104 rfl rfl (by decide) ?_ | refine sx_iinc (pc := 104) dX7_fewest_104 rfl rfl (by decide) ?_
        show Ex _ _ _ _ _ _ [_, _, _, _, _, _, _] _ _ _
        refine ex_goto (pc := 107) (tgt := 61) dX7_fewest_107 (by decide) ?_
        have z := ih (j + 1) (by omega)
        rw [fwM] at z
        first
        | (rw [if_pos ⟨(nI_ltI (cnt8_lt _) (fwM_lt _)).mp (Int32.not_le.mp c_78), decide_eq_true ((lg_eq0 _ _).mp c_89)⟩] at z; exact z)
        | (rw [if_neg (fun q => c_89 ((lg_eq0 _ _).mpr (of_decide_eq_true q.2)))] at z; exact z)
        | (rw [if_neg (fun q => absurd (nI_lt q.1 (fwM_lt _)) (Int32.not_lt.mpr c_78))] at z; exact z)
set_option maxHeartbeats 4000000 in
set_option maxRecDepth 100000 in
theorem c_M_fewest_1 {g : Gl} {d ks : Nat} {h : AH} {z s : Nat → Int32} {n nt : Nat} (hn8 : n ≤ 8) (hd : 6 ≤ d) (w : Int32) : ∀ (m k : Nat) (h1 : AH), MR g h1 z s n nt → MT g h1 → FrX mtX g h h1 → ∀ (f : Nat → Int64), h1[87]? = some (la g 8 f) → (∀ j, j < k → f j = sgL s nt j) → k + m = n → Ex g mX7_fewest d 0 ks 15 [some (.ref (g.1 + 75)), some (.int w), some (.int (nI (k))), none, none, none, none] [] h1 (qi (fun h' r => (MR g h' z s n nt ∧ MT g h' ∧ FrX mtX g h h') ∧ r = (if w = nI 0 then nI (fwB s n nt) else nI (cntF 8 (fwB s n nt))))) := by
  obtain ⟨hp1, hp2, hp3, -, -, -, -⟩ := p2_ok n hn8
  intro m
  induction m with
  | zero =>
    intro k h1 hR hT hF f h87 hf hk
    have hM := hR.1
    have hP := hR.2.1
    have hN := hP.1
    refine ex_iload_n (pc := 15) dX7_fewest_15 rfl ?_
    refine ex_aload_n (pc := 16) dX7_fewest_16 rfl ?_
    refine ex_get (pc := 17) dX7_fewest_17 fl_X7_7 hM.1 rfl ?_
    refine ex_iconst (pc := 20) (v := (nI 0)) dX7_fewest_20 (by decide) ?_
    refine ex_ildn (k := 0) (pc := 21) dX7_fewest_21 hM.2 rfl (by decide) (by decide) ?_
    refine bx_icmp_ge_t (pc := 22) (tgt := 42) dX7_fewest_22 (by decide) (by rw [hN, show k = n by omega]; exact Int32.le_refl _) ?_
    refine ex_aload_n (pc := 42) dX7_fewest_42 rfl ?_
    refine ex_aload_n (pc := 43) dX7_fewest_43 rfl ?_
    refine cx_VL0i (pc := 44) dX7_fewest_44 lk_X7_139 hM.1 rfl (Nat.le_of_ble_eq_true rfl) (Nat.le_of_ble_eq_true rfl) (by omega) (c_M_everybody hR) (fun h_44 x_44 q_44 => ?_)
    obtain ⟨e_44, f_44⟩ := q_44
    rw [e_44, f_44, hp3, nI_sub hp2]
    refine cx_VL1l (pc := 47) dX7_fewest_47 lk_X7_223 hM.1 rfl (Nat.le_of_ble_eq_true rfl) (Nat.le_of_ble_eq_true rfl) (by omega) (c_M_together hM hN hn8 h87 (p2 n - 1)) (fun h_47 x_47 q_47 => ?_)
    obtain ⟨e_47, f_47⟩ := q_47
    rw [e_47, f_47, uni_S (P := pb (nI (p2 n - 1))) (fun j hj => hf j (by omega))]
    rw [show uni (pb (nI (p2 n - 1))) (sgL s nt) n = uni (fun _ => true) (sgL s nt) n from cov_all hn8]
    refine sx_lstore_n (pc := 50) dX7_fewest_50 rfl (by decide) ?_
    show Ex _ _ _ _ _ _ [_, _, _, _, _, _, _] _ _ _
    refine ex_iconst (pc := 51) (v := (nI 0)) dX7_fewest_51 (by decide) ?_
    refine sx_istore (pc := 52) dX7_fewest_52 rfl (by decide) ?_
    show Ex _ _ _ _ _ _ [_, _, _, _, _, _, _] _ _ _
    refine ex_bipush (pc := 54) (v := (nI 9)) dX7_fewest_54 (by decide) ?_
    refine sx_istore (pc := 56) dX7_fewest_56 rfl (by decide) ?_
    show Ex _ _ _ _ _ _ [_, _, _, _, _, _, _] _ _ _
    refine ex_iconst (pc := 58) (v := (nI 0)) dX7_fewest_58 (by decide) ?_
    refine sx_istore (pc := 59) dX7_fewest_59 rfl (by decide) ?_
    show Ex _ _ _ _ _ _ [_, _, _, _, _, _, _] _ _ _
    refine (c_M_fewest_2 hR (by omega) h87 (fun j hj => hf j (by omega)) w (p2 n) 0 (by omega)).mono (fun h' r a => ?_)
    obtain ⟨x, e, a1, a2⟩ := a
    rw [a1]
    exact ⟨x, e, ⟨hR, hT, hF⟩, a2⟩
  | succ m ih =>
    intro k h1 hR hT hF f h87 hf hk
    have hM := hR.1
    have hP := hR.2.1
    have hN := hP.1
    refine ex_iload_n (pc := 15) dX7_fewest_15 rfl ?_
    refine ex_aload_n (pc := 16) dX7_fewest_16 rfl ?_
    refine ex_get (pc := 17) dX7_fewest_17 fl_X7_7 hM.1 rfl ?_
    refine ex_iconst (pc := 20) (v := (nI 0)) dX7_fewest_20 (by decide) ?_
    refine ex_ildn (k := 0) (pc := 21) dX7_fewest_21 hM.2 rfl (by decide) (by decide) ?_
    refine bx_icmp_ge_f (pc := 22) (tgt := 42) dX7_fewest_22 (by decide) (by rw [hN]; exact nI_ge (by omega) (by omega)) ?_
    refine ex_aload_n (pc := 25) dX7_fewest_25 rfl ?_
    refine ex_get (pc := 26) dX7_fewest_26 fl_X7_43 hM.1 rfl ?_
    refine ex_iload_n (pc := 29) dX7_fewest_29 rfl ?_
    refine ex_aload_n (pc := 30) dX7_fewest_30 rfl ?_
    refine ex_iload_n (pc := 31) dX7_fewest_31 rfl ?_
    refine cx_VL1l (pc := 32) dX7_fewest_32 lk_X7_132 hM.1 rfl (Nat.le_of_ble_eq_true rfl) (Nat.le_of_ble_eq_true rfl) (by omega) (c_M_seenBy hR (by omega) (show k < n by omega)) (fun h_32 x_32 q_32 => ?_)
    obtain ⟨hs_32, f_32⟩ := q_32
    rw [f_32]
    refine ex_lstn (k := k) (pc := 35) dX7_fewest_35 (hs_32.at (nscr (by omega)) h87) rfl (by omega) (by decide) ?_
    have f2 : FrX mtX g h_32 (h_32.set 87 (la g 8 (vp_updL f k (sgL s nt k)))) := FrX.st (by unfold mtX; omega) (nscr (by omega))
    have h87b : (h_32.set 87 (la g 8 (vp_updL f k (sgL s nt k))))[87]? = some (la g 8 (vp_updL f k (sgL s nt k))) := gs_eq (hs_32.at (nscr (by omega)) h87)
    have hR2 : MR g (h_32.set 87 (la g 8 (vp_updL f k (sgL s nt k)))) z s n nt := (hR.sq hs_32).fr (S := fun q => q = 87) (FrX.st rfl (nscr (by omega))) (by decide) (by decide)
    have hT2 : MT g (h_32.set 87 (la g 8 (vp_updL f k (sgL s nt k)))) := by
      obtain ⟨⟨f1, a1⟩, -, ⟨f3, a3⟩, ⟨f4, a4⟩, f5, a5⟩ := hT.sq hs_32
      exact ⟨⟨f1, gs_ne (by decide) a1⟩, ⟨_, h87b⟩, ⟨f3, gs_ne (by decide) a3⟩, ⟨f4, gs_ne (by decide) a4⟩, f5, gs_ne (by decide) a5⟩
    first | refine sx_inc (pc := 36) dX7_fewest_36 rfl rfl (by decide) ?_ | refine sx_iinc (pc := 36) dX7_fewest_36 rfl rfl (by decide) ?_
    show Ex _ _ _ _ _ _ [_, _, _, _, _, _, _] _ _ _
    refine ex_goto (pc := 39) (tgt := 15) dX7_fewest_39 (by decide) ?_
    exact ih (k + 1) _ hR2 hT2 ((hF.tr hs_32.fr).tr f2) _ h87b (fun j hj => by
      by_cases e : j = k
      · subst e; exact pk_uLs
      · rw [pk_uLn e]; exact hf j (by omega)) (by omega)
set_option maxHeartbeats 4000000 in
set_option maxRecDepth 100000 in
theorem c_M_fewest {g : Gl} {d ks : Nat} {h : AH} {z s : Nat → Int32} {n nt : Nat} (hR : MR g h z s n nt) (hT : MT g h) (hd : 6 ≤ d) (w : Int32) : Ex g mX7_fewest d 0 ks 0 [some (.ref (g.1 + 75)), some (.int w), none, none, none, none, none] [] h (qi (fun h' r => (MR g h' z s n nt ∧ MT g h' ∧ FrX mtX g h h') ∧ r = aFewest s n nt w)) := by
  have hM := hR.1
  have hP := hR.2.1
  have hn8 := hP.2.1
  have hN := hP.1
  refine ex_iload_n (pc := 0) dX7_fewest_0 rfl ?_
  refine ex_i2l (pc := 1) dX7_fewest_1 ?_
  refine ex_lconst (pc := 2) (v := 0) dX7_fewest_2 (by decide) ?_
  refine ex_lconst (pc := 3) (v := 1) dX7_fewest_3 (by decide) ?_
  refine cx_SL3i (pc := 4) dX7_fewest_4 lk_X7_69 rfl (Nat.le_of_ble_eq_true rfl) (Nat.le_of_ble_eq_true rfl) (by omega) (c_M_in _ (m := 2) (by decide)) (fun h_4 x_4 q_4 => ?_)
  obtain ⟨e_4, f_4⟩ := q_4
  rw [e_4, f_4]
  refine ex_if_ne (pc := 7) (tgt := 13) dX7_fewest_7 (by decide) (fun c_7 => ?_) (fun c_7 => ?_)
  · skip
    have b_7 := bT c_7
    refine ex_iconst (pc := 13) (v := (nI 0)) dX7_fewest_13 (by decide) ?_
    refine sx_istore_n (pc := 14) dX7_fewest_14 rfl (by decide) ?_
    show Ex _ _ _ _ _ _ [_, _, _, _, _, _, _] _ _ _
    obtain ⟨f, h87⟩ := hT.2.1
    refine (c_M_fewest_1 hn8 hd w n 0 h hR hT FrX.rf f h87 (fun j hj => absurd hj (by omega)) (by omega)).mono (fun h' r a => ?_)
    obtain ⟨x, e, a1, a2⟩ := a
    exact ⟨x, e, a1, by rw [a2]; simp only [aFewest, b_7, Bool.and_self, Bool.and_true, Bool.true_and, Bool.and_false, Bool.false_and, Bool.or_true, Bool.true_or, Bool.or_false, Bool.false_or, Bool.not_true, Bool.not_false, Bool.false_eq_true, ↓reduceIte]⟩
  · skip
    have b_7 := bF c_7
    refine ex_ldc (pc := 10) dX7_fewest_10 cn_X7_161 ?_
    refine ex_ret dX7_fewest_12 rfl ?_
    refine qi_mk ⟨⟨hR, hT, FrX.rf⟩, ?_⟩
    simp [aFewest, b_7]

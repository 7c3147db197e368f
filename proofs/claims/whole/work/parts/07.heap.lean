/-! the heap's rows: fields, arrays, new things, constants -/
def CD (ci : Nat) (C : String) (T : u_T) (N : Nat) : Prop := vwCl[ci]? = some (C, T, N) ∧ (∀ w ∈ u_ws C T N, Gw w) ∧ (∃ ty0 : Nat → FieldType, ∀ k, k < N → parseFieldDescriptor (T k).2.2.1 = some (ty0 k)) ∧ (∀ a, a < N → ∀ b, b < N → a ≠ b → (T a).2.1 ≠ (T b).2.1) ∧ ∀ k, k < N → (T k).1 = C
/-- a field's link -/
def FL (own : String) (idx ci k : Nat) : Prop := ∃ (C : String) (T : u_T) (N : Nat), CD ci C T N ∧ k < N ∧ Gw (.fieldLink own idx C (T k).2.1 (T k).2.2.1)
def FP (own : String) (idx ci k : Nat) (ty : FieldType) : Prop := ∃ (C : String) (T : u_T) (N : Nat), CD ci C T N ∧ k < N ∧ Gw (.fieldLink own idx C (T k).2.1 (T k).2.2.1) ∧ parseFieldDescriptor (T k).2.2.1 = some ty ∧ (T k).2.2.2 = false
def FI (own : String) (idx ci k : Nat) (ty : FieldType) : Prop := ∃ (C : String) (T : u_T) (N : Nat), CD ci C T N ∧ k < N ∧ Gw (.fieldLink own idx C (T k).2.1 (T k).2.2.1) ∧ parseFieldDescriptor (T k).2.2.1 = some ty ∧ (T k).2.2.2 = true ∧ C = own
def NL (own : String) (idx ci N : Nat) (fs : List Value) : Prop := ∃ (C : String) (T : u_T), CD ci C T N ∧ Gw (.classLink own idx C) ∧ Gw (.instantiable C N) ∧ Gw (.initialized C) ∧ ∃ ty : Nat → FieldType, (∀ k, k < N → parseFieldDescriptor (T k).2.2.1 = some (ty k)) ∧ ∀ j, j < N → defaultValue (ty j) = vp_V fs j
theorem W.sz {p : Program} {l : Launch} {e : Env} {R : Room} {s : State} {m : MethodId} {args : Array Value} {below : List Frame} {meth : Method} {c : Code} {H : Heap} {locs : List Loc} {cells slots : Nat} {Z : State → Prop} {f : JFrame} (k : H.size ≤ s.heap.size + cells → W p l e R s m args below meth c H locs cells slots Z f) : W p l e R s m args below meth c H locs cells slots Z f :=
  fun T hT X => k (by have h := X.same.2.2.1; rw [← hT]; exact h) T hT X
theorem Rp.setR {g : Gl} {h : AH} {H1 : Heap} {q : Nat} {c0 c : va_E} {s : State} {cells : Nat} (he : h[q]? = some c0) (hT : s.heap.size + cells = g.1 + h.length) (hP : va_P (gD g) vwCl ((wsF g.1 h).set q (g.1 + q, c)) H1) (hz : H1.size ≤ s.heap.size + cells) : Rp g (h.set q c) H1 := by
  rw [wsF_set] at hP
  refine ⟨hP, ?_⟩
  have hl : 0 < (h.set q c).length := by
    rw [List.length_set]
    have := (List.getElem?_eq_some_iff.mp he).1
    omega
  have := Rp_ge hP hl
  rw [List.length_set] at this ⊢
  omega
theorem Cx.tsG {g : Gl} {M : Mt} {p : Program} {s : State} {m : MethodId} {args : Array Value} {meth : Method} {c : Code} (hC : Cx g M p s m args meth c) : ∀ w ∈ lw_good, w.before args s = true := fun w hw => hC.2.2.2.2.2.1 w (lw_good_of hw)
section HEAP
variable {g : Gl} {M : Mt} {d kc ks pc idx : Nat} {als : List (Option Value)} {st : List Value} {h : AH} {Q : AH → Option Value → Prop}
theorem ex_get {ci k q : Nat} {fs : List Value} {v : Value} (hd : decode M.2.1 pc = .ok (.getfield idx, 3)) (hF : FL M.1.cls idx ci k) (he : h[q]? = some (ob ci fs)) (hv : fs[k]? = some v) (K : Ex g M d kc ks (pc + 3) als (v :: st) h Q) : Ex g M d kc ks pc als (.ref (g.1 + q) :: st) h Q := by
  obtain ⟨C, T, N, ⟨hc, hu, hty, hnm, hone⟩, hk, hlk⟩ := hF
  exact Ex.stepC (fun _ _ _ _ _ _ _ _ _ _ _ _ _ _ _ _ hC hS hR _ _ _ _ _ kk => va_get hC.1 hC.2.1 hC.tsG (fun w hw => (hu w hw).mem) hC.2.2.2.2.1 hC.2.2.2.2.2.2.2.1.2.1.1 hR.1 q (wsF_at he) hc k hk (hC.2.2.2.2.2.1 _ hlk) (fun x hx => by rw [hone k hk] at hx; exact hx) hv hd kk) K
theorem ex_put {ci k q : Nat} {fs : List Value} {v : Value} {ty : FieldType} (hd : decode M.2.1 pc = .ok (.putfield idx, 3)) (hF : FP M.1.cls idx ci k ty) (he : h[q]? = some (ob ci fs)) (hl : k < fs.length) (hn : narrow ty v = v) (hfit : fits ty v = true) (K : Ex g M d kc ks (pc + 3) als st (h.set q (ob ci (fs.set k v))) Q) : Ex g M d kc ks pc als (v :: .ref (g.1 + q) :: st) h Q := by
  obtain ⟨C, T, N, ⟨hc, hu, ⟨ty0, hty⟩, hnm, hone⟩, hk, hlk, hp, hf⟩ := hF
  intro p l e R s m args below meth c hC hd1 hd2 H locs cells slots ls Z hS hR hT hcc hs hll kk
  refine va_put hC.1 hC.2.1 hC.tsG (fun w hw => (hu w hw).mem) ty0 hty hnm hC.2.2.2.2.1 hC.2.2.2.2.2.2.2.1.2.1.1 hR.1 (wsF_D g.1 h) hS q (wsF_at he) hc k hk (hC.2.2.2.2.2.1 _ hlk) (fun x hx => by rw [hone k hk] at hx; exact hx) hf hp hn hfit hl hd (fun H1 locs1 hP1 _ hS1 => W.sz (fun hz => ?_))
  exact K p l e R s m args below meth c hC hd1 hd2 H1 locs1 cells slots ls Z hS1 (Rp.setR he hT hP1 hz) (by rw [List.length_set]; exact hT) hcc hs hll kk
theorem ex_putF {ci k q : Nat} {fs : List Value} {v : Value} {ty : FieldType} (hd : decode M.2.1 pc = .ok (.putfield idx, 3)) (hF : FI M.1.cls idx ci k ty) (hin : M.1.name = "<init>") (he : h[q]? = some (ob ci fs)) (hl : k < fs.length) (hn : narrow ty v = v) (hfit : fits ty v = true) (K : Ex g M d kc ks (pc + 3) als st (h.set q (ob ci (fs.set k v))) Q) : Ex g M d kc ks pc als (v :: .ref (g.1 + q) :: st) h Q := by
  obtain ⟨C, T, N, ⟨hc, hu, ⟨ty0, hty⟩, hnm, hone⟩, hk, hlk, hp, hf, hown⟩ := hF
  intro p l e R s m args below meth c hC hd1 hd2 H locs cells slots ls Z hS hR hT hcc hs hll kk
  refine va_putF hC.1 hC.2.1 hC.tsG (fun w hw => (hu w hw).mem) ty0 hty hnm hC.2.2.2.2.1 hC.2.2.2.2.2.2.2.1.2.1.1 hR.1 (wsF_D g.1 h) hS q (wsF_at he) hc k hk (hC.2.2.2.2.2.1 _ hlk) (fun x hx => by rw [hone k hk] at hx; exact hx) hf (hC.2.2.2.2.2.2.2.2.trans hin) ((hone k hk).trans hown) hp hn hfit hl hd (fun H1 locs1 hP1 _ hS1 => W.sz (fun hz => ?_))
  exact K p l e R s m args below meth c hC hd1 hd2 H1 locs1 cells slots ls Z hS1 (Rp.setR he hT hP1 hz) (by rw [List.length_set]; exact hT) hcc hs hll kk
theorem ex_iald {q n : Nat} {f : Nat → Int32} {i : Int32} (hd : decode M.2.1 pc = .ok (.iaload, 1)) (he : h[q]? = some (ia g n f)) (hin : vp_in i n) (K : Ex g M d kc ks (pc + 1) als (.int (f i.toNatClampNeg) :: st) h Q) : Ex g M d kc ks pc als (.int i :: .ref (g.1 + q) :: st) h Q :=
  Ex.stepC (fun _ _ _ _ _ _ _ _ _ _ _ _ _ _ _ _ hC _ hR _ _ _ _ _ kk => va_iald hC.1 hC.2.1 hC.2.2.2.2.2.2.2.1.2.1.1 hR.1 q 0 (wsF_at he) rfl hin hd kk) K
theorem ex_lald {q n : Nat} {f : Nat → Int64} {i : Int32} (hd : decode M.2.1 pc = .ok (.laload, 1)) (he : h[q]? = some (la g n f)) (hin : vp_in i n) (K : Ex g M d kc ks (pc + 1) als (.long (f i.toNatClampNeg) :: st) h Q) : Ex g M d kc ks pc als (.int i :: .ref (g.1 + q) :: st) h Q :=
  Ex.stepC (fun _ _ _ _ _ _ _ _ _ _ _ _ _ _ _ _ hC _ hR _ _ _ _ _ kk => va_lald hC.1 hC.2.1 hC.2.2.2.2.2.2.2.1.2.1.1 hR.1 q 1 (wsF_at he) rfl hin hd kk) K
theorem ex_aald {q t n : Nat} {f : Nat → Option Nat} {i : Int32} {v : Value} {C : String} (hd : decode M.2.1 pc = .ok (.aaload, 1)) (ht : (gT g)[t]? = some (gC g t, .object C)) (he : h[q]? = some (ra g t n f)) (hin : vp_in i n) (hv : va_rf (f i.toNatClampNeg) = v) (K : Ex g M d kc ks (pc + 1) als (v :: st) h Q) : Ex g M d kc ks pc als (.int i :: .ref (g.1 + q) :: st) h Q := by
  subst hv
  exact Ex.stepC (fun _ _ _ _ _ _ _ _ _ _ _ _ _ _ _ _ hC _ hR _ _ _ _ _ kk => va_aldq hC.1 hC.2.1 hC.2.2.2.2.2.2.2.1.2.1.1 hR.1 q t (wsF_at he) ht hin hd kk) K
theorem ex_alen {q : Nat} {x : ClassId × vp_A} {v : Int32} {t : Nat} {ty : FieldType} (hd : decode M.2.1 pc = .ok (.arraylength, 1)) (ht : (gT g)[t]? = some (x.1, ty)) (he : h[q]? = some (.inl x)) (hv : Int32.ofNat x.2.1 = v) (K : Ex g M d kc ks (pc + 1) als (.int v :: st) h Q) : Ex g M d kc ks pc als (.ref (g.1 + q) :: st) h Q :=
  Ex.stepC (fun _ _ _ _ _ _ _ _ _ _ _ _ _ _ _ _ hC _ hR _ _ _ _ _ kk => va_alen (x := x.2) hC.1 hC.2.1 hC.2.2.2.2.2.2.2.1.2.1.1 hR.1 q t (wsF_at he) ht hv hd kk) K
theorem ex_ialen {q n : Nat} {f : Nat → Int32} (hd : decode M.2.1 pc = .ok (.arraylength, 1)) (he : h[q]? = some (ia g n f)) (K : Ex g M d kc ks (pc + 1) als (.int (nI n) :: st) h Q) : Ex g M d kc ks pc als (.ref (g.1 + q) :: st) h Q := ex_alen (t := 0) hd rfl he rfl K
theorem ex_iast {q n : Nat} {f : Nat → Int32} {i x : Int32} (hd : decode M.2.1 pc = .ok (.iastore, 1)) (he : h[q]? = some (ia g n f)) (hin : vp_in i n) (K : Ex g M d kc ks (pc + 1) als st (h.set q (ia g n (upd f i.toNatClampNeg x))) Q) : Ex g M d kc ks pc als (.int x :: .int i :: .ref (g.1 + q) :: st) h Q := by
  intro p l e R s m args below meth c hC hd1 hd2 H locs cells slots ls Z hS hR hT hcc hs hll kk
  refine va_iast hC.1 hC.2.1 hC.2.2.2.2.2.2.2.1.2.1.1 hR.1 (wsF_D g.1 h) hS q 0 (wsF_at he) rfl hin hd (fun H1 locs1 hP1 _ hS1 => W.sz (fun hz => ?_))
  exact K p l e R s m args below meth c hC hd1 hd2 H1 locs1 cells slots ls Z hS1 (Rp.setR he hT hP1 hz) (by rw [List.length_set]; exact hT) hcc hs hll kk
theorem ex_last {q n : Nat} {f : Nat → Int64} {i : Int32} {x : Int64} (hd : decode M.2.1 pc = .ok (.lastore, 1)) (he : h[q]? = some (la g n f)) (hin : vp_in i n) (K : Ex g M d kc ks (pc + 1) als st (h.set q (la g n (vp_updL f i.toNatClampNeg x))) Q) : Ex g M d kc ks pc als (.long x :: .int i :: .ref (g.1 + q) :: st) h Q := by
  intro p l e R s m args below meth c hC hd1 hd2 H locs cells slots ls Z hS hR hT hcc hs hll kk
  refine va_last hC.1 hC.2.1 hC.2.2.2.2.2.2.2.1.2.1.1 hR.1 (wsF_D g.1 h) hS q 1 (wsF_at he) rfl hin hd (fun H1 locs1 hP1 _ hS1 => W.sz (fun hz => ?_))
  exact K p l e R s m args below meth c hC hd1 hd2 H1 locs1 cells slots ls Z hS1 (Rp.setR he hT hP1 hz) (by rw [List.length_set]; exact hT) hcc hs hll kk
theorem ex_aast {q t n qv ci : Nat} {f : Nat → Option Nat} {i : Int32} {vs : List Value} {r : vw_C} (hd : decode M.2.1 pc = .ok (.aastore, 1)) (ht : (gT g)[t]? = some (gC g t, .object r.1)) (hr : vwCl[ci]? = some r) (he : h[q]? = some (ra g t n f)) (hv : h[qv]? = some (ob ci vs)) (hin : vp_in i n) (K : Ex g M d kc ks (pc + 1) als st (h.set q (ra g t n (va_up f i.toNatClampNeg (some (g.1 + qv))))) Q) : Ex g M d kc ks pc als (.ref (g.1 + qv) :: .int i :: .ref (g.1 + q) :: st) h Q := by
  intro p l e R s m args below meth c hC hd1 hd2 H locs cells slots ls Z hS hR hT hcc hs hll kk
  refine va_astq hC.1 hC.2.1 hC.2.2.2.2.2.2.2.1.2.1.1 hR.1 (wsF_D g.1 h) hS q t qv ci (wsF_at he) ht (wsF_at hv) hr hin hd (fun H1 locs1 hP1 _ hS1 => W.sz (fun hz => ?_))
  exact K p l e R s m args below meth c hC hd1 hd2 H1 locs1 cells slots ls Z hS1 (Rp.setR he hT hP1 hz) (by rw [List.length_set]; exact hT) hcc hs hll kk
theorem fresh_at {g : Gl} {h : AH} {H1 : Heap} {q : Nat} {c : va_E} (hP : va_P (gD g) vwCl (wsF g.1 h ++ [(q, c)]) H1) (hD : va_D (gA g) (wsF g.1 h ++ [(q, c)])) (hz : H1.size ≤ g.1 + h.length + 1) : q = g.1 + h.length ∧ Rp g (h ++ [c]) H1 := by
  have hlen : (wsF g.1 h).length = h.length := by
    have : ∀ (h : AH) (b : Nat), (wsF b h).length = h.length := by
      intro h
      induction h with
      | nil => intro b; rfl
      | cons c h ih => intro b; show (wsF (b + 1) h).length + 1 = h.length + 1; rw [ih]
    exact this h g.1
  have hlast : (wsF g.1 h ++ [(q, c)])[h.length]? = some (q, c) := by
    rw [List.getElem?_append_right (by omega), hlen, Nat.sub_self]; rfl
  have h1 : q < H1.size := (hP _ _ hlast).lt
  have h2 : g.1 ≤ q := hD.2 _ _ hlast
  have h3 : q = g.1 + h.length := by
    rcases Nat.lt_or_ge q (g.1 + h.length) with z | z
    · have hk : q - g.1 < h.length := by omega
      have hc : (wsF g.1 h ++ [(q, c)])[q - g.1]? = some (g.1 + (q - g.1), h[q - g.1]) := by
        rw [List.getElem?_append_left (by omega)]
        exact wsF_at (List.getElem?_eq_getElem hk)
      have := hD.1 _ _ _ _ hc hlast (show g.1 + (q - g.1) = q by omega)
      omega
    · omega
  subst h3
  rw [← wsF_app] at hP
  refine ⟨rfl, hP, ?_⟩
  have := Rp_ge hP (by rw [List.length_append]; exact Nat.succ_pos _)
  rw [List.length_append] at this ⊢
  show H1.size = g.1 + (h.length + 1)
  have e : ([c] : AH).length = 1 := rfl
  omega
theorem ex_new {ci N : Nat} {fs : List Value} (hd : decode M.2.1 pc = .ok (.new idx, 3)) (hN : NL M.1.cls idx ci N fs) (K : Ex g M d kc ks (pc + 3) als (.ref (g.1 + h.length) :: st) (h ++ [ob ci fs]) Q) : Ex g M d (1 + kc) (N + ks) pc als st h Q := by
  obtain ⟨C, T, ⟨hc, hu, -, hnm, hone⟩, hcl, hinst, hini, ty, hty, hfs⟩ := hN
  intro p l e R s m args below meth c hC hd1 hd2 H locs cells slots ls Z hS hR hT hcc hs hll kk
  refine va_new hC.1 hC.2.1 hC.tsG (fun w hw => (hu w hw).mem) ty hty hC.2.2.2.2.1 (hC.2.2.2.2.2.1 _ hcl) (hC.2.2.2.2.2.1 _ hinst) (hC.2.2.2.2.2.1 _ hini) hC.2.2.2.2.2.2.2.1.2.1.1 hR.1 (wsF_D g.1 h) hS (fun q hq => Nat.le_trans hC.2.2.2.2.2.2.2.1.2.2.2 hq) hc hfs (by omega) (by omega) hd (fun q H1 hP1 hD1 hS1 => W.sz (fun hz => ?_))
  obtain ⟨rfl, hR1⟩ := fresh_at hP1 hD1 (by omega)
  refine K p l e R s m args below meth c hC hd1 hd2 H1 locs (cells + 1) (slots + N) ls Z hS1 hR1 (by rw [List.length_append]; show s.heap.size + (cells + 1) = g.1 + (h.length + 1); omega) (by omega) (by omega) hll ?_
  intro H' locs' pc' ls' h2 r2 q1 q2 q3 q4 q5 q6
  have e1 : cells + 1 + kc = cells + (1 + kc) := by omega
  have e2 : slots + N + ks = slots + (N + ks) := by omega
  rw [e1, e2]
  rw [e1] at q5
  exact kk H' locs' pc' ls' h2 r2 q1 q2 q3 q4 q5 q6
theorem ex_newi {n : Int32} {N : Nat} (hd : decode M.2.1 pc = .ok (.newarray .int, 2)) (hn : ¬ n < 0) (hN : n.toNatClampNeg = N) (hb : N ≤ 100000) (hw : Gw (.arrayClass .int)) (K : Ex g M d kc ks (pc + 2) als (.ref (g.1 + h.length) :: st) (h ++ [ia g N (fun _ => 0)]) Q) : Ex g M d (1 + kc) (N + ks) pc als (.int n :: st) h Q := by
  intro p l e R s m args below meth c hC hd1 hd2 H locs cells slots ls Z hS hR hT hcc hs hll kk
  have hK := hC.2.2.2.2.2.2.2.1.2.1.1
  refine va_newa (atype := .int) (ty := .int) (a0 := (N, .inl (fun _ => 0))) hC.1 hC.2.1 (hC.2.2.2.2.2.1 _ hw) rfl hK hR.1 (wsF_D g.1 h) hS (fun q hq => Nat.le_trans hC.2.2.2.2.2.2.2.1.2.2.2 hq) (fun cA => rfl) hn hN (by show N * 4 ≤ 536870912; omega) (by omega) (by omega) hd (fun q cA H1 hK1 hP1 hD1 hS1 => W.sz (fun hz => ?_))
  have hA : cA = gC g 0 := by
    have a1 := (hK1.2 6 (cA, .int) rfl).2
    have a2 := (hK.2 0 (gC g 0, .int) rfl).2
    exact Option.some.inj (a1.symm.trans a2)
  subst hA
  obtain ⟨rfl, hR1⟩ := fresh_at hP1 hD1 (by omega)
  refine K p l e R s m args below meth c hC hd1 hd2 H1 locs (cells + 1) (slots + N) ls Z hS1 hR1 (by rw [List.length_append]; show s.heap.size + (cells + 1) = g.1 + (h.length + 1); omega) (by omega) (by omega) hll ?_
  intro H' locs' pc' ls' h2 r2 q1 q2 q3 q4 q5 q6
  have e1 : cells + 1 + kc = cells + (1 + kc) := by omega
  have e2 : slots + N + ks = slots + (N + ks) := by omega
  rw [e1, e2]
  rw [e1] at q5
  exact kk H' locs' pc' ls' h2 r2 q1 q2 q3 q4 q5 q6
theorem ex_newl {n : Int32} {N : Nat} (hd : decode M.2.1 pc = .ok (.newarray .long, 2)) (hn : ¬ n < 0) (hN : n.toNatClampNeg = N) (hb : N ≤ 100000) (hw : Gw (.arrayClass .long)) (K : Ex g M d kc ks (pc + 2) als (.ref (g.1 + h.length) :: st) (h ++ [la g N (fun _ => 0)]) Q) : Ex g M d (1 + kc) (N + ks) pc als (.int n :: st) h Q := by
  intro p l e R s m args below meth c hC hd1 hd2 H locs cells slots ls Z hS hR hT hcc hs hll kk
  have hK := hC.2.2.2.2.2.2.2.1.2.1.1
  refine va_newa (atype := .long) (ty := .long) (a0 := (N, .inr (.inl (fun _ => 0)))) hC.1 hC.2.1 (hC.2.2.2.2.2.1 _ hw) rfl hK hR.1 (wsF_D g.1 h) hS (fun q hq => Nat.le_trans hC.2.2.2.2.2.2.2.1.2.2.2 hq) (fun cA => rfl) hn hN (by show N * 8 ≤ 536870912; omega) (by omega) (by omega) hd (fun q cA H1 hK1 hP1 hD1 hS1 => W.sz (fun hz => ?_))
  have hA : cA = gC g 1 := by
    have a1 := (hK1.2 6 (cA, .long) rfl).2
    have a2 := (hK.2 1 (gC g 1, .long) rfl).2
    exact Option.some.inj (a1.symm.trans a2)
  subst hA
  obtain ⟨rfl, hR1⟩ := fresh_at hP1 hD1 (by omega)
  refine K p l e R s m args below meth c hC hd1 hd2 H1 locs (cells + 1) (slots + N) ls Z hS1 hR1 (by rw [List.length_append]; show s.heap.size + (cells + 1) = g.1 + (h.length + 1); omega) (by omega) (by omega) hll ?_
  intro H' locs' pc' ls' h2 r2 q1 q2 q3 q4 q5 q6
  have e1 : cells + 1 + kc = cells + (1 + kc) := by omega
  have e2 : slots + N + ks = slots + (N + ks) := by omega
  rw [e1, e2]
  rw [e1] at q5
  exact kk H' locs' pc' ls' h2 r2 q1 q2 q3 q4 q5 q6
theorem ex_newq {n : Int32} {N t : Nat} {C : String} (hd : decode M.2.1 pc = .ok (.anewarray idx, 3)) (ht : (gT g)[t]? = some (gC g t, .object C)) (hC' : C = RX0 ∨ C = RX5 ∨ C = RX3 ∨ C = RX4) (hn : ¬ n < 0) (hN : n.toNatClampNeg = N) (hb : N ≤ 100000) (hw : Gw (.classLink M.1.cls idx C)) (K : Ex g M d kc ks (pc + 3) als (.ref (g.1 + h.length) :: st) (h ++ [ra g t N (fun _ => none)]) Q) : Ex g M d (1 + kc) (N + ks) pc als (.int n :: st) h Q := by
  intro p l e R s m args below meth c hC hd1 hd2 H locs cells slots ls Z hS hR hT hcc hs hll kk
  have hK := hC.2.2.2.2.2.2.2.1.2.1.1
  have hAO : va_AO C s := by
    obtain ⟨-, -, -, -, a1, a2, a3, a4⟩ := hC.2.2.2.2.2.2.2.1.2.1
    rcases hC' with rfl | rfl | rfl | rfl
    · exact a1
    · exact a2
    · exact a3
    · exact a4
  refine va_newq hC.1 hC.2.1 hC.2.2.2.2.1 (hC.2.2.2.2.2.1 _ hw) hAO hK hR.1 (wsF_D g.1 h) hS (fun q hq => Nat.le_trans hC.2.2.2.2.2.2.2.1.2.2.2 hq) hn hN (by omega) (by omega) (by omega) hd (fun q cA H1 hK1 hP1 hD1 hS1 => W.sz (fun hz => ?_))
  have hA : cA = gC g t := by
    obtain ⟨_, _, -, -, -, a1⟩ := (hK1.2 6 (cA, .object C) rfl).2
    obtain ⟨_, _, -, -, -, a2⟩ := (hK.2 t (gC g t, .object C) ht).2
    exact Option.some.inj (a1.symm.trans a2)
  subst hA
  obtain ⟨rfl, hR1⟩ := fresh_at hP1 hD1 (by omega)
  refine K p l e R s m args below meth c hC hd1 hd2 H1 locs (cells + 1) (slots + N) ls Z hS1 hR1 (by rw [List.length_append]; show s.heap.size + (cells + 1) = g.1 + (h.length + 1); omega) (by omega) (by omega) hll ?_
  intro H' locs' pc' ls' h2 r2 q1 q2 q3 q4 q5 q6
  have e1 : cells + 1 + kc = cells + (1 + kc) := by omega
  have e2 : slots + N + ks = slots + (N + ks) := by omega
  rw [e1, e2]
  rw [e1] at q5
  exact kk H' locs' pc' ls' h2 r2 q1 q2 q3 q4 q5 q6
theorem ex_objInit {a : Nat} (hd : decode M.2.1 pc = .ok (.invokespecial idx, 3)) (hw1 : Gw (.methodLink M.1.cls idx Lib.objectInit)) (hw2 : Gw (.instanceMethod Lib.objectInit)) (hw3 : Gw (.code Lib.objectInit ⟨#[0xb1]⟩ 1 none)) (hr : (st.map fun v => v.category).sum ≤ 8) (h1 : 1 ≤ d) (K : Ex g M d kc ks (pc + 3) als st h Q) : Ex g M d kc ks pc als (.ref a :: st) h Q :=
  Ex.stepC (fun _ _ _ R _ m _ _ _ _ _ _ _ _ ls _ hC _ hR hd1 hd2 _ _ hsz kk => W.objInit hC.1 hC.2.1 hC.2.2.2.2.1 (hC.2.2.2.2.2.1 _ hw1) (hC.2.2.2.2.2.1 _ hw2) (hC.2.2.2.2.2.1 _ hw3) rfl (by rw [hC.2.2.1]; exact hsz) rfl hd (Nat.le_trans h1 hd1) (Nat.le_trans (Nat.add_le_add_right (lv_room (m := m) (pc := pc) (ls := ls) (rest := .ref a :: st) hr) 12) (by omega)) kk) K
end HEAP

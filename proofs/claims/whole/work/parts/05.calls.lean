/-! locals, entry, calls -/
def toL (als : List (Option Value)) : List (Nat × Value) := (List.range als.length).filterMap (fun i => (als[i]?.join).map (fun v => (i, v)))
theorem mem_toL {als : List (Option Value)} {i : Nat} {v : Value} : (i, v) ∈ toL als ↔ als[i]? = some (some v) := by
  unfold toL
  rw [List.mem_filterMap]
  constructor
  · rintro ⟨j, -, hj⟩
    cases ha : als[j]? with
    | none => rw [ha] at hj; cases hj
    | some o =>
      cases o with
      | none => rw [ha] at hj; cases hj
      | some w =>
        rw [ha] at hj
        cases hj
        exact ha
  · intro h
    refine ⟨i, List.mem_range.mpr (List.getElem?_eq_some_iff.mp h).1, ?_⟩
    rw [h]; rfl
theorem LR.lv {nL : Nat} {als : List (Option Value)} {ls : Array Slot} (h : LR nL als ls) : lv_has ls nL (toL als) := ⟨h.1, h.2.1, fun q hq => h.2.2 q.1 q.2 (mem_toL.mp hq)⟩
def okI (als : List (Option Value)) (i : Nat) : Bool := match i with
  | 0 => true
  | j + 1 => match als[j]? with
    | some (some v) => v.category != 2
    | _ => true
theorem LR.st1 {nL : Nat} {als : List (Option Value)} {ls' : Array Slot} {i : Nat} {v : Value} (ho : okI als i = true) (hi : i < als.length) (h : lv_has ls' nL ((i, v) :: (toL als).filter (fun q => !(q.1 == i) && !(q.1 + 1 == i && q.2.category == 2)))) : LR nL (als.set i (some v)) ls' := by
  refine ⟨h.1, h.2.1, fun j w hj => ?_⟩
  rw [List.getElem?_set] at hj
  by_cases e : i = j
  · subst e
    rw [if_pos rfl, if_pos hi] at hj
    cases hj
    exact h.2.2 _ List.mem_cons_self
  · rw [if_neg e] at hj
    refine h.2.2 (j, w) (List.mem_cons_of_mem _ (List.mem_filter.mpr ⟨mem_toL.mpr hj, ?_⟩))
    have e1 : (j == i) = false := by simpa using fun q => e (Eq.symm q)
    show (!(j == i) && !(j + 1 == i && w.category == 2)) = true
    rw [e1]
    by_cases e2 : j + 1 = i
    · subst e2
      unfold okI at ho
      simp only [hj] at ho
      simp at ho
      simp [ho]
    · simp [e2]
theorem LR.st2 {nL : Nat} {als : List (Option Value)} {ls' : Array Slot} {i : Nat} {v : Value} (ho : okI als i = true) (hi : i < als.length) (h : lv_has ls' nL ((i, v) :: (toL als).filter (fun q => !(q.1 == i) && (!(q.1 == i + 1) && !(q.1 + 1 == i && q.2.category == 2))))) : LR nL ((als.set i (some v)).set (i + 1) none) ls' := by
  refine ⟨h.1, h.2.1, fun j w hj => ?_⟩
  rw [List.getElem?_set] at hj
  by_cases e' : i + 1 = j
  · rw [if_pos e'] at hj
    by_cases hz : i + 1 < (als.set i (some v)).length
    · rw [if_pos hz] at hj
      cases hj
    · rw [if_neg hz] at hj
      cases hj
  rw [if_neg e', List.getElem?_set] at hj
  by_cases e : i = j
  · subst e
    rw [if_pos rfl, if_pos hi] at hj
    cases hj
    exact h.2.2 _ List.mem_cons_self
  · rw [if_neg e] at hj
    refine h.2.2 (j, w) (List.mem_cons_of_mem _ (List.mem_filter.mpr ⟨mem_toL.mpr hj, ?_⟩))
    have e1 : (j == i) = false := by simpa using fun q => e (Eq.symm q)
    have e3 : (j == i + 1) = false := by simpa using fun q => e' (Eq.symm q)
    show (!(j == i) && (!(j == i + 1) && !(j + 1 == i && w.category == 2))) = true
    rw [e1, e3]
    by_cases e2 : j + 1 = i
    · subst e2
      unfold okI at ho
      simp only [hj] at ho
      simp at ho
      simp [ho]
    · simp [e2]
def entA : List Value → List (Option Value)
  | [] => []
  | v :: vs => if v.category = 2 then some v :: none :: entA vs else some v :: entA vs
def entL (n : Nat) (vs : List Value) : List (Option Value) := entA vs ++ List.replicate (n - (entA vs).length) none
theorem entA_mem : ∀ (vs : List Value) (b i : Nat) (v : Value), (entA vs)[i]? = some (some v) → (b + i, v) ∈ lv_args b vs := by
  intro vs
  induction vs with
  | nil => intro b i v h; cases h
  | cons w vs ih =>
    intro b i v h
    unfold entA at h
    unfold lv_args
    by_cases hc : w.category = 2
    · rw [if_pos hc] at h
      rw [if_pos hc]
      match i, h with
      | 0, h => cases h; exact List.mem_cons_self
      | 1, h => cases h
      | i + 2, h =>
        have := ih (b + 2) i v h
        have e : b + 2 + i = b + (i + 2) := by omega
        rw [e] at this
        exact List.mem_cons_of_mem _ this
    · rw [if_neg hc] at h
      rw [if_neg hc]
      match i, h with
      | 0, h => cases h; exact List.mem_cons_self
      | i + 1, h =>
        have := ih (b + 1) i v h
        have e : b + 1 + i = b + (i + 1) := by omega
        rw [e] at this
        exact List.mem_cons_of_mem _ this
theorem entL_mem {n : Nat} {vs : List Value} {i : Nat} {v : Value} (h : (entL n vs)[i]? = some (some v)) : (i, v) ∈ lv_args 0 vs := by
  unfold entL at h
  by_cases hl : i < (entA vs).length
  · rw [List.getElem?_append_left hl] at h
    have := entA_mem vs 0 i v h
    rw [Nat.zero_add] at this
    exact this
  · rw [List.getElem?_append_right (by omega)] at h
    rw [List.getElem?_replicate] at h
    split at h
    · cases h
    · cases h
/-- a method that can be called: its words -/
def GM (M : Mt) (n : Nat) : Prop := Gw (.code M.1 M.2.1 M.2.2.1 M.2.2.2) ∧ Gw (.initialized M.1.cls) ∧ plainFor M.1 = true ∧ (M.1.cls ≠ "java/lang/invoke/MethodHandle" ∧ M.1.cls ≠ "java/lang/invoke/VarHandle") ∧ (parseMethodDescriptor M.1.desc).map (fun d => d.parameters.length) = some n ∧ M.2.2.1 ≤ 21
def Sw (M : Mt) : List Cond := Cond.code M.1 M.2.1 M.2.2.1 M.2.2.2 :: lw_good
def Rm (d kc ks : Nat) : Room := { frames := d, cells := kc, slots := ks, locals := 40 * d }
def Pw (g : Gl) (h : AH) (As : List Value) : Array Value → State → Prop := va_Pc As (fun U => CF g U U.heap ∧ Rp g h U.heap)
def Qw (g : Gl) (h : AH) (kc : Nat) (Q : AH → Option Value → Prop) : Array Value → State → Outcome → State → Prop := fun _ st oc t => (∃ (h' : AH) (r : Option Value), oc = .returned r ∧ Q h' r ∧ Rp g h' t.heap ∧ h'.length = h.length + kc) ∧ va_F (gA g) st t
theorem Ex.met {g : Gl} {M : Mt} {d kc ks n : Nat} {As : List Value} {h : AH} {Q : AH → Option Value → Prop} (hG : GM M n) (hA : (lg_sl As).length ≤ M.2.2.1) (K : Ex g M d kc ks 0 (entL M.2.2.1 As) [] h Q) (l : Launch) :
    Met l M.1 (Sw M) (Rm d kc ks) (Pw g h As) (Qw g h kc Q) kc ks (gA g) := by
  refine va_MetF (cc := M.2.1) (maxL := M.2.2.1) (ret := M.2.2.2) hG.2.2.1 rfl ?_
  intro p e s m args below meth c s₁ B hml hv
  obtain ⟨rfl, hCF, hRp⟩ := hv
  have hx := B.exec
  have hb := B.bytes
  have hr := B.returns
  have hts := atoms_spec (ws := Sw M) B.pre
  have hown : s.vm.findClass M.1.cls = some m.cls := findClass_of_methodNamed B.named
  have hlocks := B.notSynchronized
  have hin : meth.name = M.1.name := (name_of_methodNamed B.named B.method).1
  have hC : Cx g M p s m As.toArray meth c := ⟨hx, hb, hml, hr, hown, fun w hw => hts w (List.mem_cons_of_mem _ hw.mem), hlocks, hCF, hin⟩
  have hl := lv_entry As (n := M.2.2.1) hA
  rw [lg_entry_eq]
  generalize (lg_sl As ++ List.replicate (M.2.2.1 - (lg_sl As).length) Slot.unset).toArray = ls at hl ⊢
  have hsz : s.heap.size + 0 = g.1 + h.length := hRp.2
  refine K p l e _ s m _ below meth c hC (Nat.le_refl d) (Nat.le_refl (40 * d)) s.heap [] 0 0 ls _ va_S.rf hRp hsz (Nat.le_of_eq (Nat.zero_add kc)) (Nat.le_of_eq (Nat.zero_add ks)) ⟨hl.1, hl.2.1, fun i v q => hl.2.2 (i, v) (entL_mem q)⟩ ?_
  intro H' locs' pc' ls' h' r hQ hRO hS hR hT hsz'
  rw [Nat.zero_add] at hT ⊢
  rw [Nat.zero_add]
  have hlen : h'.length = h.length + kc := by omega
  have fin : ∀ t : State, t.heap = H' → s.WarmedH t.vm → Qw g h kc Q As.toArray s (.returned r) t := fun t ht _ => ⟨⟨h', r, rfl, hQ, by rw [ht]; exact hR, hlen⟩, hS.F ht⟩
  rcases hRO with ⟨hd, v, ty, rfl, hty, hn⟩ | ⟨hd, hty, v, rfl⟩ | ⟨hd, hty, rfl⟩ | ⟨hd, v, rt, rfl, hty, hrt, hv⟩
  · exact W.zret hx hb (hr.trans hty) hn fin hS.2.2 hd hlocks
  · exact W.lret hx hb (hr.trans hty) fin hS.2.2 hd hlocks
  · exact W.vret hx hb (hr.trans hty) fin hS.2.2 hd hlocks
  · exact W.aret hx hb (hr.trans hty) hrt hv fin hS.2.2 hd hlocks
theorem Pw.pre {g : Gl} {s : State} {h : AH} {H : Heap} {locs : List Loc} {As : List Value} (hCF : CF g s s.heap) (hS : va_S (gA g) s.heap H locs) (hR : Rp g h H) : PreS s H (Pw g h As) As := by
  refine ⟨fun a U f mk q => ?_, fun U hU hW => ?_⟩
  · obtain ⟨q1, q2, q3⟩ := q
    exact ⟨q1, q2.blind, q3⟩
  · exact ⟨rfl, hCF.call hS hU hW, by rw [hU]; exact hR⟩
theorem run_go {g : Gl} {p : Program} {l : Launch} {e : Env} {R : Room} {s : State} {m : MethodId} {args : Array Value} {below : List Frame} {meth : Method} {c : Code} {H : Heap} {locs : List Loc} {cells slots mc ms pc : Nat} {ls : Array Slot} {st0 rest : List Value} {h : AH} {Q : AH → Option Value → Prop} {a : Array Value} {Z : State → Prop}
    (hr : va_Run p l e R s m args below meth c H locs cells slots mc ms (F0 m pc ls st0) rest (Qw g h mc Q a) (gA g)) (hS : va_S (gA g) s.heap H locs)
    (kk : ∀ (h' : AH) (r : Option Value) (H1 : Heap) (locs1 : List Loc), Q h' r → Rp g h' H1 → h'.length = h.length + mc → va_S (gA g) s.heap H1 locs1 → W p l e R s m args below meth c H1 locs1 (cells + mc) (slots + ms) Z (F0 m (pc + 3) ls (r.toList ++ rest))) : W p l e R s m args below meth c H locs cells slots Z (F0 m pc ls st0) := by
  intro T hT X
  obtain ⟨v, st₀, t, T', L, h0, X', hL, e1, e2, ⟨⟨h', r, hv, hq, hR, hlen⟩, hz, hk⟩, st⟩ := hr T hT X
  cases hv
  rw [h0] at hz hk
  obtain ⟨t2, a1, b1⟩ := kk h' v T'.heap (locs ++ L) hq (by rw [e1]; exact hR) hlen ⟨Nat.le_trans hS.1 (by rw [e1]; exact hz), fun q h1 h2 => by rw [e1, hk q (Nat.lt_of_lt_of_le h1 hS.1) h2]; exact hS.2.1 q h1 h2, fun q hq => by
      rcases List.mem_append.mp hq with z | z
      · exact hS.2.2 q z
      · exact hL q z⟩ T' rfl X'
  exact ⟨t2, st t2 a1, b1⟩
theorem Cx.words {g : Gl} {M M' : Mt} {p : Program} {s : State} {m : MethodId} {args : Array Value} {meth : Method} {c : Code} {n : Nat} (hC : Cx g M p s m args meth c) (hG : GM M' n) : ∀ w ∈ Sw M', ∀ (a' : Array Value) (U : State), s.WarmedH U.vm → w.before a' U = true := by
  intro w hw a' U hW
  have hg : Gw w := by
    rcases List.mem_cons.mp hw with rfl | z
    · exact hG.1
    · exact lw_good_of z
  exact word_at hW (good_of_word hg.2) (hC.2.2.2.2.2.1 w hg)
theorem Cx.fix {g : Gl} {M : Mt} {p : Program} {s : State} {m : MethodId} {args : Array Value} {meth : Method} {c : Code} (hC : Cx g M p s m args meth c) : CallFix p m c M.2.1 M.2.2.1 s args lw_good M.1.cls := ⟨hC.1, hC.2.1, hC.2.2.1, hC.2.2.2.2.1, fun w hw => hC.2.2.2.2.2.1 w (lw_good_of hw)⟩
theorem Cx.callB {g : Gl} {M M' : Mt} {p : Program} {s : State} {m : MethodId} {args : Array Value} {meth : Method} {c : Code} {n d kc ks idx : Nat} {R : Room} (hC : Cx g M p s m args meth c) (hG : GM M' n) (hd : 1 ≤ d) (hf : d ≤ R.frames) (hl : 40 * d ≤ R.locals) (hlk : Gw (.methodLink M.1.cls idx M'.1)) : CallB R s args M.1.cls idx M'.1 M'.2.1 M'.2.2.1 M'.2.2.2 (Sw M') (Rm (d - 1) kc ks) kc ks n := by
  have hw := hC.2.2.2.2.2.1
  refine ⟨rfl, rfl, ?_, ?_, hC.words hG, List.mem_cons_self, hw _ hG.1, hw _ hG.2.1, hG.2.2.2.1, ?_, hw _ hlk⟩
  · show d - 1 + 1 ≤ R.frames
    omega
  · show 8 + (M'.2.2.1 + 11) + 40 * (d - 1) ≤ R.locals
    have := hG.2.2.2.2.2
    omega
  · intro sig hs
    have := hG.2.2.2.2.1
    rw [hs] at this
    exact (Option.some.inj this).symm
theorem Cx.callN {g : Gl} {M M' : Mt} {p : Program} {s : State} {m : MethodId} {args : Array Value} {meth : Method} {c : Code} {n d kc ks idx : Nat} {host : String} {R : Room} (hC : Cx g M p s m args meth c) (hG : GM M' n) (hd : 1 ≤ d) (hf : d ≤ R.frames) (hl : 40 * d ≤ R.locals) (hlk : (M.1.cls, idx, M'.1, host) ∈ nestT) : va_CN R s args M.1.cls idx M'.1 host M'.2.1 M'.2.2.1 M'.2.2.2 (Sw M') (Rm (d - 1) kc ks) kc ks n := by
  have hB := hC.2.2.2.2.2.1
  refine ⟨⟨rfl, rfl, ?_, ?_, hC.words hG, List.mem_cons_self⟩, hB _ hG.1, hB _ hG.2.1, hG.2.2.2.1, ?_, ?_⟩
  · show d - 1 + 1 ≤ R.frames
    omega
  · show 8 + (M'.2.2.1 + 11) + 40 * (d - 1) ≤ R.locals
    have := hG.2.2.2.2.2
    omega
  · intro sig hs
    have := hG.2.2.2.2.1
    rw [hs] at this
    exact (Option.some.inj this).symm
  · have := hC.2.2.2.2.2.2.2.1.2.1.2.2.1 _ hlk
    exact va_Nw.use rfl this
/-- links of calls -/
def SL (own : String) (idx : Nat) (M : Mt) (n : Nat) : Prop := Gw (.methodLink own idx M.1) ∧ Gw (.static M.1) ∧ GM M n
def SN (own : String) (idx : Nat) (M : Mt) (n : Nat) : Prop := (∃ host, (own, idx, M.1, host) ∈ nestT) ∧ Gw (.static M.1) ∧ GM M n
def VL (own : String) (idx : Nat) (M : Mt) (n ci : Nat) : Prop := Gw (.methodLink own idx M.1) ∧ Gw (.instanceMethod M.1) ∧ Gw (.selects M.1.cls M.1 M.1) ∧ GM M n ∧ ∃ (T : u_T) (N : Nat), vwCl[ci]? = some (M.1.cls, T, N)
def IL (own : String) (idx : Nat) (M : Mt) (n : Nat) : Prop := Gw (.methodLink own idx M.1) ∧ M.1.name = "<init>" ∧ M.2.2.2 = none ∧ Gw (.instanceMethod M.1) ∧ GM M n
def IN (own : String) (idx : Nat) (M : Mt) (n : Nat) : Prop := (∃ host, (own, idx, M.1, host) ∈ nestT) ∧ M.1.name = "<init>" ∧ M.2.2.2 = none ∧ Gw (.instanceMethod M.1) ∧ GM M n
section CALLS
variable {g : Gl} {M M' : Mt} {d kc ks kc' ks' pc idx n : Nat} {als : List (Option Value)} {st As rest : List Value} {h : AH} {Q Q' : AH → Option Value → Prop}
theorem Ex.ofRun (h1 : 1 ≤ d) (hAs : (lg_sl As).length ≤ M'.2.2.1) (hG : GM M' n) (K' : Ex g M' (d - 1) kc' ks' 0 (entL M'.2.2.1 As) [] h Q')
    (hrun : ∀ (p : Program) (l : Launch) (e : Env) (R : Room) (s : State) (m : MethodId) (args : Array Value) (below : List Frame) (meth : Method) (c : Code) (H : Heap) (locs : List Loc) (cells slots : Nat) (ls : Array Slot), Cx g M p s m args meth c → d ≤ R.frames → 40 * d ≤ R.locals → va_S (gA g) s.heap H locs → Rp g h H → ls.size = M.2.2.1 → cells + kc' ≤ R.cells ∧ slots + ks' ≤ R.slots → Met l M'.1 (Sw M') (Rm (d - 1) kc' ks') (Pw g h As) (Qw g h kc' Q') kc' ks' (gA g) →
      ∃ a, va_Run p l e R s m args below meth c H locs cells slots kc' ks' (F0 m pc ls st) rest (Qw g h kc' Q' a) (gA g))
    (K : ∀ h' r, Q' h' r → h'.length = h.length + kc' → Ex g M d kc ks (pc + 3) als (r.toList ++ rest) h' Q) : Ex g M d (kc' + kc) (ks' + ks) pc als st h Q := by
  intro p l e R s m args below meth c hC hd1 hd2 H locs cells slots ls Z hS hR hT hc hs hl k
  obtain ⟨a, hr⟩ := hrun p l e R s m args below meth c H locs cells slots ls hC hd1 hd2 hS hR hl.1 ⟨by omega, by omega⟩ (Ex.met hG hAs K' l)
  refine run_go hr hS (fun h' r H1 locs1 hq hR1 hlen hS1 => ?_)
  refine K h' r hq hlen p l e R s m args below meth c hC hd1 hd2 H1 locs1 (cells + kc') (slots + ks') ls Z hS1 hR1 (by omega) (by omega) (by omega) hl ?_
  intro H' locs' pc' ls' h2 r2 q1 q2 q3 q4 q5 q6
  have e1 : cells + kc' + kc = cells + (kc' + kc) := by omega
  have e2 : slots + ks' + ks = slots + (ks' + ks) := by omega
  rw [e1, e2]
  rw [e1] at q5
  exact k H' locs' pc' ls' h2 r2 q1 q2 q3 q4 q5 q6
theorem ex_callS (hd : decode M.2.1 pc = .ok (.invokestatic idx, 3)) (hL : SL M.1.cls idx M' n) (hst : st = As.reverse ++ rest) (hn : As.length = n) (hAs : (lg_sl As).length ≤ M'.2.2.1) (hrest : (rest.map fun v => v.category).sum ≤ 8) (h1 : 1 ≤ d)
    (K' : Ex g M' (d - 1) kc' ks' 0 (entL M'.2.2.1 As) [] h Q') (K : ∀ h' r, Q' h' r → h'.length = h.length + kc' → Ex g M d kc ks (pc + 3) als (r.toList ++ rest) h' Q) : Ex g M d (kc' + kc) (ks' + ks) pc als st h Q := by
  refine Ex.ofRun h1 hAs hL.2.2 K' ?_ K
  intro p l e R s m args below meth c H locs cells slots ls hC hd1 hd2 hS hR hsz hf hM
  exact ⟨_, va_runS (As := As) (rest := rest) hC.fix hM ⟨hC.callB hL.2.2 h1 hd1 hd2 hL.1, hC.2.2.2.2.2.1 _ hL.2.1⟩ (Pw.pre hC.2.2.2.2.2.2.2.1 hS hR) rfl hn hsz hst (lv_room hrest) hd hf⟩
theorem ex_callSN (hd : decode M.2.1 pc = .ok (.invokestatic idx, 3)) (hL : SN M.1.cls idx M' n) (hst : st = As.reverse ++ rest) (hn : As.length = n) (hAs : (lg_sl As).length ≤ M'.2.2.1) (hrest : (rest.map fun v => v.category).sum ≤ 8) (h1 : 1 ≤ d)
    (K' : Ex g M' (d - 1) kc' ks' 0 (entL M'.2.2.1 As) [] h Q') (K : ∀ h' r, Q' h' r → h'.length = h.length + kc' → Ex g M d kc ks (pc + 3) als (r.toList ++ rest) h' Q) : Ex g M d (kc' + kc) (ks' + ks) pc als st h Q := by
  refine Ex.ofRun h1 hAs hL.2.2 K' ?_ K
  intro p l e R s m args below meth c H locs cells slots ls hC hd1 hd2 hS hR hsz hf hM
  obtain ⟨⟨host, hm⟩, hL2, hL3⟩ := hL
  exact ⟨_, va_runSN (As := As) (rest := rest) hC.fix hM ⟨hC.callN hL3 h1 hd1 hd2 hm, hC.2.2.2.2.2.1 _ hL2, trivial⟩ (Pw.pre hC.2.2.2.2.2.2.2.1 hS hR) rfl hn hsz hst (lv_room hrest) hd hf⟩
theorem ex_callV {q ci : Nat} {fs : List Value} (hd : decode M.2.1 pc = .ok (.invokevirtual idx, 3)) (hL : VL M.1.cls idx M' n ci) (hst : st = As.reverse ++ .ref (g.1 + q) :: rest) (he : h[q]? = some (ob ci fs)) (hn : As.length = n) (hAs : (lg_sl (.ref (g.1 + q) :: As)).length ≤ M'.2.2.1) (hrest : (rest.map fun v => v.category).sum ≤ 8) (h1 : 1 ≤ d)
    (K' : Ex g M' (d - 1) kc' ks' 0 (entL M'.2.2.1 (.ref (g.1 + q) :: As)) [] h Q') (K : ∀ h' r, Q' h' r → h'.length = h.length + kc' → Ex g M d kc ks (pc + 3) als (r.toList ++ rest) h' Q) : Ex g M d (kc' + kc) (ks' + ks) pc als st h Q := by
  obtain ⟨hL1, hL2, hL3, hL4, T, N, hL5⟩ := hL
  refine Ex.ofRun h1 hAs hL4 K' ?_ K
  intro p l e R s m args below meth c H locs cells slots ls hC hd1 hd2 hS hR hsz hf hM
  have hp := Pw.pre (As := .ref (g.1 + q) :: As) hC.2.2.2.2.2.2.2.1 hS hR
  exact ⟨_, va_runV (As := As) (rest := rest) hC.fix hM ⟨hC.callB hL4 h1 hd1 hd2 hL1, hC.2.2.2.2.2.1 _ hL2, hC.2.2.2.2.2.1 _ hL3⟩ ⟨hp.1, va_recv hC.2.2.2.2.2.2.2.1.2.1.1 hR.1 hL5 (wsF_at he), hp.2⟩ rfl hn hsz hst (lv_room hrest) hd hf⟩
theorem ex_callI {b : Nat} (hd : decode M.2.1 pc = .ok (.invokespecial idx, 3)) (hL : IL M.1.cls idx M' n) (hst : st = As.reverse ++ .ref b :: rest) (hn : As.length = n) (hAs : (lg_sl (.ref b :: As)).length ≤ M'.2.2.1) (hrest : (rest.map fun v => v.category).sum ≤ 8) (h1 : 1 ≤ d)
    (K' : Ex g M' (d - 1) kc' ks' 0 (entL M'.2.2.1 (.ref b :: As)) [] h Q') (K : ∀ h' r, Q' h' r → h'.length = h.length + kc' → Ex g M d kc ks (pc + 3) als (r.toList ++ rest) h' Q) : Ex g M d (kc' + kc) (ks' + ks) pc als st h Q := by
  obtain ⟨hL1, hL2, hL3, hL4, hL5⟩ := hL
  refine Ex.ofRun h1 hAs hL5 K' ?_ K
  intro p l e R s m args below meth c H locs cells slots ls hC hd1 hd2 hS hR hsz hf hM
  have hB := hC.callB (kc := kc') (ks := ks') hL5 h1 hd1 hd2 hL1
  rw [hL3] at hB
  exact ⟨_, va_runI (As := As) (rest := rest) hC.fix hM ⟨hB, hL2, hC.2.2.2.2.2.1 _ hL4⟩ (Pw.pre (As := .ref b :: As) hC.2.2.2.2.2.2.2.1 hS hR) rfl hn hsz hst (lv_room hrest) hd hf⟩
theorem ex_callIN {b : Nat} (hd : decode M.2.1 pc = .ok (.invokespecial idx, 3)) (hL : IN M.1.cls idx M' n) (hst : st = As.reverse ++ .ref b :: rest) (hn : As.length = n) (hAs : (lg_sl (.ref b :: As)).length ≤ M'.2.2.1) (hrest : (rest.map fun v => v.category).sum ≤ 8) (h1 : 1 ≤ d)
    (K' : Ex g M' (d - 1) kc' ks' 0 (entL M'.2.2.1 (.ref b :: As)) [] h Q') (K : ∀ h' r, Q' h' r → h'.length = h.length + kc' → Ex g M d kc ks (pc + 3) als (r.toList ++ rest) h' Q) : Ex g M d (kc' + kc) (ks' + ks) pc als st h Q := by
  obtain ⟨⟨host, hm⟩, hL2, hL3, hL4, hL5⟩ := hL
  refine Ex.ofRun h1 hAs hL5 K' ?_ K
  intro p l e R s m args below meth c H locs cells slots ls hC hd1 hd2 hS hR hsz hf hM
  have hB := hC.callN (kc := kc') (ks := ks') hL5 h1 hd1 hd2 hm
  rw [hL3] at hB
  exact ⟨_, va_runIN (As := As) (rest := rest) hC.fix hM ⟨hB, hL2, hC.2.2.2.2.2.1 _ hL4⟩ (Pw.pre (As := .ref b :: As) hC.2.2.2.2.2.2.2.1 hS hR) rfl hn hsz hst (lv_room hrest) hd hf⟩
end CALLS

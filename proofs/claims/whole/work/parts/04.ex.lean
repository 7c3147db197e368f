/-! what stands still: constants, links of nest mates; the context of a method's walk; the walk's judgement Ex -/
def nestT : List (String × Nat × MethodName × String) := [("RoomWatch$Room", 59, ⟨"RoomWatch$Post", "<init>", "()V"⟩, "RoomWatch"), ("RoomWatch", 28, ⟨"RoomWatch$Post", "<init>", "()V"⟩, "RoomWatch"), ("RoomWatch", 43, ⟨"RoomWatch$Reader", "<init>", "()V"⟩, "RoomWatch"), ("RoomWatch", 67, ⟨"RoomWatch$Sheet", "<init>", "()V"⟩, "RoomWatch"), ("RoomWatch", 68, ⟨"RoomWatch$Slot", "<init>", "()V"⟩, "RoomWatch"), ("RoomWatch$Slot", 17, ⟨"RoomWatch$Post", "<init>", "()V"⟩, "RoomWatch"), ("RoomWatch$Slot", 24, ⟨"RoomWatch$Sheet", "<init>", "()V"⟩, "RoomWatch"), ("RoomWatch$Room", 171, ⟨"RoomWatch", "isBelow", "(II)Z"⟩, "RoomWatch"), ("RoomWatch$Room", 105, ⟨"RoomWatch", "held", "(II)I"⟩, "RoomWatch"), ("RoomWatch$Room", 139, ⟨"RoomWatch", "bit", "(I)J"⟩, "RoomWatch"), ("RoomWatch$Post", 28, ⟨"RoomWatch", "isBelow", "(II)Z"⟩, "RoomWatch"), ("RoomWatch$Sheet", 28, ⟨"RoomWatch", "isBelow", "(II)Z"⟩, "RoomWatch"), ("RoomWatch$Reader", 89, ⟨"RoomWatch", "isBelow", "(II)Z"⟩, "RoomWatch")]
/-- the six literals: pool entry, text, bytes -/
def strT : List (Nat × String × List Int32) := [(93, "reach", [114, 101, 97, 99, 104]), (99, "fee", [102, 101, 101]), (101, "fine", [102, 105, 110, 101]), (134, "tsh", [116, 115, 104]), (136, "cu", [99, 117]), (138, "tc", [116, 99])]
def strLen : List Nat := [5, 3, 4, 3, 2, 2]
def strByt : List (List Int32) := [[114, 101, 97, 99, 104], [102, 101, 101], [102, 105, 110, 101], [116, 115, 104], [99, 117], [116, 99]]
def strIdx : List Nat := [93, 99, 101, 134, 136, 138]
def strTx : List String := ["reach", "fee", "fine", "tsh", "cu", "tc"]
def fAbove (j : Nat) : Int32 := ([-1, 0, 0, 1, 2, 0] : List Int32).getD j 0
/-- the addresses: gK 0 the table, gK (1 + i) the literal i, gK (10 + i) its bytes -/
def CFs (g : Gl) (U : State) (H : Heap) : Prop :=
  va_Z "RoomWatch" "ABOVE" "[I" (.ref (gK g 0)) (gA g) U H ∧ va_T .int (gK g 0) 6 (fun j => .int (fAbove j)) (gA g) U H ∧
  vk_S 6 strLen strByt (fun i => gK g (1 + i)) (fun i => gK g (10 + i)) (gA g) U H ∧
  (va_Z "java/lang/String" "COMPACT_STRINGS" "Z" (.int 1) (gA g) U H ∧ va_Zq "jdk/internal/util/Preconditions" "SIOOBE_FORMATTER" "Ljava/util/function/BiFunction;" (gA g) U H) ∧
  va_X g.2.2.2.2.1 g.2.2.2.2.2.1 g.2.2.2.2.2.2 U H
def CFv (g : Gl) (U : State) : Prop :=
  va_K (gD g) vwCl (gT g) U ∧
  (∀ i, i < 6 → vk_R "RoomWatch$Reader" (strIdx.getD i 0) (strTx.getD i "") (gK g (1 + i)) U) ∧
  (∀ q ∈ nestT, va_Nw (.methodLinkNest q.1 q.2.1 q.2.2.1 q.2.2.2) U) ∧
  va_Nw (.fieldLinkNest "RoomWatch$Post" 32 "RoomWatch" "ABOVE" "[I" "RoomWatch") U ∧
  va_AO RX0 U ∧ va_AO RX5 U ∧ va_AO RX3 U ∧ va_AO RX4 U
def CF (g : Gl) (U : State) (H : Heap) : Prop := CFs g U H ∧ CFv g U ∧ g.2.2.2.2.1 < g.1 ∧ g.1 ≤ H.size
theorem CFv.warm {g : Gl} {s U : State} (h : CFv g s) (hW : s.WarmedH U.vm) : CFv g U := by
  obtain ⟨h1, h2, h3, h4, h5, h6, h7, h8⟩ := h
  exact ⟨va_K.moved hW.alike h1, fun i hi => (h2 i hi).warm hW, fun q hq => va_Nw.warmM hW (h3 q hq), va_Nw.warmF hW h4, va_AO.moved hW.alike h5, va_AO.moved hW.alike h6, va_AO.moved hW.alike h7, va_AO.moved hW.alike h8⟩
theorem CFs.moved {g : Gl} {s U : State} {H : Heap} (h : CFs g s H) (hW : s.vm.Alike U.vm) : CFs g U H := by
  obtain ⟨h1, h2, h3, h4, h5⟩ := h
  exact ⟨va_Z.moved hW h1, va_T.moved hW h2, vk_S.moved hW h3, ⟨va_Z.moved hW h4.1, va_Zq.moved hW h4.2⟩, va_X.moved hW h5⟩
theorem CFs.kept {g : Gl} {s : State} {H H1 : Heap} (h : CFs g s H) (hb : g.2.2.2.2.1 < g.1) (hB : g.1 ≤ H.size) (hk : ∀ a : Nat, a < H.size → ¬ gA g a → H1[a]? = H[a]?) : CFs g s H1 := by
  obtain ⟨h1, h2, h3, h4, h5⟩ := h
  exact ⟨h1.kept hk, h2.kept hk, h3.kept hk, ⟨h4.1.kept hk, h4.2.kept hk⟩, h5.kept (hk _ (Nat.lt_of_lt_of_le hb hB) (Nat.not_le.mpr hb))⟩
theorem CF.call {g : Gl} {s U : State} {H : Heap} {locs : List Loc} (h : CF g s s.heap) (hS : va_S (gA g) s.heap H locs) (hU : U.heap = H) (hW : s.WarmedH U.vm) : CF g U U.heap := by
  obtain ⟨h1, h2, h3, h4⟩ := h
  refine ⟨?_, h2.warm hW, h3, ?_⟩
  · rw [hU]
    exact (h1.kept h3 h4 hS.2.1).moved hW.alike
  · rw [hU]
    exact Nat.le_trans h4 hS.1
theorem CF.blind {g : Gl} {U : State} {f : JFrame} {mk : MethodId} {a : Array Value} (h : CF g U U.heap) : CF g (U.calling f mk a) (U.calling f mk a).heap := by
  obtain ⟨h1, ⟨k1, k2, k3, k4, k5, k6, k7, k8⟩, h3, h4⟩ := h
  refine ⟨?_, ⟨va_K.moved (Vm.Alike.refl U.vm) k1, fun i hi => (k2 i hi).same rfl, fun q hq => va_Nw.same rfl rfl (k3 q hq), va_Nw.same rfl rfl k4, va_AO.moved (Vm.Alike.refl U.vm) k5, va_AO.moved (Vm.Alike.refl U.vm) k6, va_AO.moved (Vm.Alike.refl U.vm) k7, va_AO.moved (Vm.Alike.refl U.vm) k8⟩, h3, h4⟩
  have h1' : CFs g U (U.calling f mk a).heap := h1
  exact h1'.moved (Vm.Alike.refl U.vm)
/-- the context of a method's walk -/
def Cx (g : Gl) (M : Mt) (p : Program) (s : State) (m : MethodId) (args : Array Value) (meth : Method) (c : Code) : Prop :=
  p.tables.exec = Jvm.exec ∧ c.code = M.2.1 ∧ c.maxLocals = M.2.2.1 ∧ meth.sig.returnType = M.2.2.2 ∧ s.vm.findClass M.1.cls = some m.cls ∧ (∀ w, Gw w → w.before args s = true) ∧ meth.locks = false ∧ CF g s s.heap ∧ meth.name = M.1.name
def LR (nL : Nat) (als : List (Option Value)) (ls : Array Slot) : Prop := ls.size = nL ∧ lv_wf ls ∧ ∀ (i : Nat) (v : Value), als[i]? = some (some v) → ls[i]? = some (.val v)
/-- the method's own end -/
def RO (M : Mt) (pc : Nat) (r : Option Value) : Prop :=
  (decode M.2.1 pc = .ok (.ireturn, 1) ∧ ∃ (v : Int32) (ty : FieldType), r = some (.int v) ∧ M.2.2.2 = some ty ∧ narrow ty (.int v) = .int v) ∨
  (decode M.2.1 pc = .ok (.lreturn, 1) ∧ M.2.2.2 = some .long ∧ ∃ v : Int64, r = some (.long v)) ∨
  (decode M.2.1 pc = .ok (.return_, 1) ∧ M.2.2.2 = none ∧ r = none) ∨
  (decode M.2.1 pc = .ok (.areturn, 1) ∧ ∃ (v : Value) (rt : FieldType), r = some v ∧ M.2.2.2 = some rt ∧ ((∃ n, rt = .object n) ∨ ∃ t, rt = .array t) ∧ (v = .null ∨ ∃ a, v = .ref a))
def Ex (g : Gl) (M : Mt) (d kc ks pc : Nat) (als : List (Option Value)) (st : List Value) (h : AH) (Q : AH → Option Value → Prop) : Prop :=
  ∀ (p : Program) (l : Launch) (e : Env) (R : Room) (s : State) (m : MethodId) (args : Array Value) (below : List Frame) (meth : Method) (c : Code), Cx g M p s m args meth c → d ≤ R.frames → 40 * d ≤ R.locals →
  ∀ (H : Heap) (locs : List Loc) (cells slots : Nat) (ls : Array Slot) (Z : State → Prop), va_S (gA g) s.heap H locs → Rp g h H → s.heap.size + cells = g.1 + h.length → cells + kc ≤ R.cells → slots + ks ≤ R.slots → LR M.2.2.1 als ls →
  (∀ (H' : Heap) (locs' : List Loc) (pc' : Nat) (ls' : Array Slot) (h' : AH) (r : Option Value), Q h' r → RO M pc' r → va_S (gA g) s.heap H' locs' → Rp g h' H' → s.heap.size + (cells + kc) = g.1 + h'.length → ls'.size = M.2.2.1 →
     W p l e R s m args below meth c H' locs' (cells + kc) (slots + ks) Z (F0 m pc' ls' r.toList)) →
  W p l e R s m args below meth c H locs cells slots Z (F0 m pc ls st)
/-- a step that leaves locals and heap alone -/
theorem Ex.step {g : Gl} {M : Mt} {d kc ks pc pc' : Nat} {als : List (Option Value)} {st st' : List Value} {h : AH} {Q : AH → Option Value → Prop}
    (hW : ∀ (p : Program) (l : Launch) (e : Env) (R : Room) (s : State) (m : MethodId) (args : Array Value) (below : List Frame) (meth : Method) (c : Code) (H : Heap) (locs : List Loc) (cells slots : Nat) (ls : Array Slot) (Z : State → Prop), p.tables.exec = Jvm.exec → c.code = M.2.1 → LR M.2.2.1 als ls →
      W p l e R s m args below meth c H locs cells slots Z (F0 m pc' ls st') → W p l e R s m args below meth c H locs cells slots Z (F0 m pc ls st))
    (K : Ex g M d kc ks pc' als st' h Q) : Ex g M d kc ks pc als st h Q := by
  intro p l e R s m args below meth c hC hd1 hd2 H locs cells slots ls Z hS hR hT hc hs hl k
  exact hW p l e R s m args below meth c H locs cells slots ls Z hC.1 hC.2.1 hl (K p l e R s m args below meth c hC hd1 hd2 H locs cells slots ls Z hS hR hT hc hs hl k)
/-- a step that uses the context, and leaves locals and heap alone -/
theorem Ex.stepC {g : Gl} {M : Mt} {d kc ks pc pc' : Nat} {als : List (Option Value)} {st st' : List Value} {h : AH} {Q : AH → Option Value → Prop}
    (hW : ∀ (p : Program) (l : Launch) (e : Env) (R : Room) (s : State) (m : MethodId) (args : Array Value) (below : List Frame) (meth : Method) (c : Code) (H : Heap) (locs : List Loc) (cells slots : Nat) (ls : Array Slot) (Z : State → Prop), Cx g M p s m args meth c → va_S (gA g) s.heap H locs → Rp g h H → d ≤ R.frames → 40 * d ≤ R.locals → cells ≤ R.cells → slots ≤ R.slots → ls.size = M.2.2.1 →
      W p l e R s m args below meth c H locs cells slots Z (F0 m pc' ls st') → W p l e R s m args below meth c H locs cells slots Z (F0 m pc ls st))
    (K : Ex g M d kc ks pc' als st' h Q) : Ex g M d kc ks pc als st h Q := by
  intro p l e R s m args below meth c hC hd1 hd2 H locs cells slots ls Z hS hR hT hc hs hl k
  exact hW p l e R s m args below meth c H locs cells slots ls Z hC hS hR hd1 hd2 (by omega) (by omega) hl.1 (K p l e R s m args below meth c hC hd1 hd2 H locs cells slots ls Z hS hR hT hc hs hl k)
theorem Ex.branch {P : Prop} {g : Gl} {M : Mt} {d kc ks pc t1 t2 : Nat} {als : List (Option Value)} {st st' : List Value} {h : AH} {Q : AH → Option Value → Prop}
    (hW : ∀ (p : Program) (l : Launch) (e : Env) (R : Room) (s : State) (m : MethodId) (args : Array Value) (below : List Frame) (meth : Method) (c : Code) (H : Heap) (locs : List Loc) (cells slots : Nat) (ls : Array Slot) (Z : State → Prop), p.tables.exec = Jvm.exec → c.code = M.2.1 →
      (P → W p l e R s m args below meth c H locs cells slots Z (F0 m t1 ls st')) → (¬ P → W p l e R s m args below meth c H locs cells slots Z (F0 m t2 ls st')) → W p l e R s m args below meth c H locs cells slots Z (F0 m pc ls st))
    (K1 : P → Ex g M d kc ks t1 als st' h Q) (K2 : ¬ P → Ex g M d kc ks t2 als st' h Q) : Ex g M d kc ks pc als st h Q := by
  intro p l e R s m args below meth c hC hd1 hd2 H locs cells slots ls Z hS hR hT hc hs hl k
  exact hW p l e R s m args below meth c H locs cells slots ls Z hC.1 hC.2.1 (fun q => K1 q p l e R s m args below meth c hC hd1 hd2 H locs cells slots ls Z hS hR hT hc hs hl k) (fun q => K2 q p l e R s m args below meth c hC hd1 hd2 H locs cells slots ls Z hS hR hT hc hs hl k)
theorem Ex.mono {g : Gl} {M : Mt} {d kc ks pc : Nat} {als : List (Option Value)} {st : List Value} {h : AH} {Q Q' : AH → Option Value → Prop} (K : Ex g M d kc ks pc als st h Q) (hQ : ∀ h' r, Q h' r → Q' h' r) : Ex g M d kc ks pc als st h Q' := by
  intro p l e R s m args below meth c hC hd1 hd2 H locs cells slots ls Z hS hR hT hc hs hl k
  exact K p l e R s m args below meth c hC hd1 hd2 H locs cells slots ls Z hS hR hT hc hs hl (fun H' locs' pc' ls' h' r q => k H' locs' pc' ls' h' r (hQ h' r q))
/-- more depth does no harm -/
theorem Ex.deep {g : Gl} {M : Mt} {d d' kc ks pc : Nat} {als : List (Option Value)} {st : List Value} {h : AH} {Q : AH → Option Value → Prop} (K : Ex g M d kc ks pc als st h Q) (hd : d ≤ d') : Ex g M d' kc ks pc als st h Q := by
  intro p l e R s m args below meth c hC hd1 hd2 H locs cells slots ls Z hS hR hT hc hs hl k
  exact K p l e R s m args below meth c hC (by omega) (by omega) H locs cells slots ls Z hS hR hT hc hs hl k
/-- fewer slots do no harm -/
theorem Ex.slots {g : Gl} {M : Mt} {d kc ks ks' pc : Nat} {als : List (Option Value)} {st : List Value} {h : AH} {Q : AH → Option Value → Prop} (K : Ex g M d kc ks pc als st h Q) (hk : ks ≤ ks') : Ex g M d kc ks' pc als st h Q := by
  intro p l e R s m args below meth c hC hd1 hd2 H locs cells slots ls Z hS hR hT hc hs hl k
  exact K p l e R s m args below meth c hC hd1 hd2 H locs cells slots ls Z hS hR hT hc (by omega) hl (fun H' locs' pc' ls' h' r q1 q2 q3 q4 q5 q6 => W.widen (Nat.le_refl _) (by omega) (k H' locs' pc' ls' h' r q1 q2 q3 q4 q5 q6))
/-- fewer locals -/
theorem Ex.drop {g : Gl} {M : Mt} {d kc ks pc : Nat} {als als' : List (Option Value)} {st : List Value} {h : AH} {Q : AH → Option Value → Prop} (hd : ∀ (i : Nat) (v : Value), als'[i]? = some (some v) → als[i]? = some (some v)) (K : Ex g M d kc ks pc als' st h Q) : Ex g M d kc ks pc als st h Q := by
  intro p l e R s m args below meth c hC hd1 hd2 H locs cells slots ls Z hS hR hT hc hs hl k
  exact K p l e R s m args below meth c hC hd1 hd2 H locs cells slots ls Z hS hR hT hc hs ⟨hl.1, hl.2.1, fun i v q => hl.2.2 i v (hd i v q)⟩ k
/-- the post's own pure part may be taken when the walk is through -/
theorem Ex.nm {α : Type} {v : α} {P : Prop} (K : ∀ x, x = v → P) : P := K v rfl

/-! rows for the walker: stores, known branches, switches, calls by number of arguments and kind of answer -/
def qi (P : AH → Int32 → Prop) : AH → Option Value → Prop := fun h r => ∃ x : Int32, r = some (.int x) ∧ P h x
def ql (P : AH → Int64 → Prop) : AH → Option Value → Prop := fun h r => ∃ x : Int64, r = some (.long x) ∧ P h x
def qv (P : AH → Prop) : AH → Option Value → Prop := fun h r => r = none ∧ P h
def qr (P : AH → Value → Prop) : AH → Option Value → Prop := fun h r => ∃ x : Value, r = some x ∧ P h x
theorem qi_mk {P : AH → Int32 → Prop} {h : AH} {x : Int32} (k : P h x) : qi P h (some (.int x)) := ⟨x, rfl, k⟩
theorem ql_mk {P : AH → Int64 → Prop} {h : AH} {x : Int64} (k : P h x) : ql P h (some (.long x)) := ⟨x, rfl, k⟩
theorem qv_mk {P : AH → Prop} {h : AH} (k : P h) : qv P h none := ⟨rfl, k⟩
theorem qr_mk {P : AH → Value → Prop} {h : AH} {x : Value} (k : P h x) : qr P h (some x) := ⟨x, rfl, k⟩
def bI (p : Prop) [Decidable p] : Int32 := if p then 1 else 0
theorem bI_01 (p : Prop) [Decidable p] : bI p = 0 ∨ bI p = 1 := by unfold bI; split; exact Or.inr rfl; exact Or.inl rfl
theorem bI_t {p : Prop} [Decidable p] (h : p) : bI p = 1 := if_pos h
theorem bI_f {p : Prop} [Decidable p] (h : ¬ p) : bI p = 0 := if_neg h
theorem bI_eq {p q : Prop} [Decidable p] [Decidable q] (h : p ↔ q) : bI p = bI q := by
  by_cases hp : p
  · rw [bI_t hp, bI_t (h.mp hp)]
  · rw [bI_f hp, bI_f (fun z => hp (h.mpr z))]
theorem bI_0 {p : Prop} [Decidable p] : bI p = 0 ↔ ¬ p := by
  by_cases hp : p
  · rw [bI_t hp]; exact ⟨fun z => absurd z (by decide), fun z => absurd hp z⟩
  · rw [bI_f hp]; exact ⟨fun _ => hp, fun _ => rfl⟩
theorem bI_1 {p : Prop} [Decidable p] : bI p = 1 ↔ p := by
  by_cases hp : p
  · rw [bI_t hp]; exact ⟨fun _ => hp, fun _ => rfl⟩
  · rw [bI_f hp]; exact ⟨fun z => absurd z (by decide), fun z => absurd z hp⟩
theorem gs_eq {h : AH} {q : Nat} {c c0 : va_E} (he : h[q]? = some c0) : (h.set q c)[q]? = some c := by
  have := (List.getElem?_eq_some_iff.mp he).1
  rw [List.getElem?_set, if_pos rfl, if_pos this]
theorem gs_ne {h : AH} {q k : Nat} {c c0 : va_E} (hne : ¬ q = k) (he : h[k]? = some c0) : (h.set q c)[k]? = some c0 := by
  rw [List.getElem?_set, if_neg hne]; exact he
theorem gs_app {h : AH} {k : Nat} {c c0 : va_E} (he : h[k]? = some c0) : (h ++ [c])[k]? = some c0 := by
  have := (List.getElem?_eq_some_iff.mp he).1
  rw [List.getElem?_append_left this]; exact he
theorem gs_last {h : AH} {c : va_E} {k : Nat} (hk : k = h.length) : (h ++ [c])[k]? = some c := by
  subst hk
  rw [List.getElem?_append_right (Nat.le_refl _), Nat.sub_self]; rfl
def okS (als : List (Option Value)) (i : Nat) : Bool := okI als i && Nat.blt i als.length
theorem okS_1 {als : List (Option Value)} {i : Nat} (h : okS als i = true) : okI als i = true := by unfold okS at h; exact (Bool.and_eq_true _ _ ▸ h).1
theorem okS_2 {als : List (Option Value)} {i : Nat} (h : okS als i = true) : i < als.length := by unfold okS at h; exact Nat.le_of_ble_eq_true (Bool.and_eq_true _ _ ▸ h).2
section SX
variable {g : Gl} {M M' : Mt} {d kc ks kc' ks' pc idx n : Nat} {als als0 : List (Option Value)} {st rest : List Value} {h : AH} {Q : AH → Option Value → Prop}
theorem sx_istore_n {i : Fin 4} {x : Int32} (hd : decode M.2.1 pc = .ok (.istore_n i, 1)) (ho : okS als (i : Nat) = true) (hn : (i : Nat) < M.2.2.1) (K : Ex g M d kc ks (pc + 1) (als.set (i : Nat) (some (.int x))) st h Q) : Ex g M d kc ks pc als (.int x :: st) h Q := ex_istore_n hd (okS_1 ho) (okS_2 ho) hn K
theorem sx_istore {i : Nat} {x : Int32} (hd : decode M.2.1 pc = .ok (.istore i, 2)) (ho : okS als i = true) (hn : i < M.2.2.1) (K : Ex g M d kc ks (pc + 2) (als.set i (some (.int x))) st h Q) : Ex g M d kc ks pc als (.int x :: st) h Q := ex_istore hd (okS_1 ho) (okS_2 ho) hn K
theorem sx_astore_n {i : Fin 4} {x : Nat} (hd : decode M.2.1 pc = .ok (.astore_n i, 1)) (ho : okS als (i : Nat) = true) (hn : (i : Nat) < M.2.2.1) (K : Ex g M d kc ks (pc + 1) (als.set (i : Nat) (some (.ref x))) st h Q) : Ex g M d kc ks pc als (.ref x :: st) h Q := ex_astore_n hd (okS_1 ho) (okS_2 ho) hn K
theorem sx_astore {i : Nat} {x : Nat} (hd : decode M.2.1 pc = .ok (.astore i, 2)) (ho : okS als i = true) (hn : i < M.2.2.1) (K : Ex g M d kc ks (pc + 2) (als.set i (some (.ref x))) st h Q) : Ex g M d kc ks pc als (.ref x :: st) h Q := ex_astore hd (okS_1 ho) (okS_2 ho) hn K
theorem sx_lstore_n {i : Fin 4} {x : Int64} (hd : decode M.2.1 pc = .ok (.lstore_n i, 1)) (ho : okS als (i : Nat) = true) (hn : (i : Nat) + 1 < M.2.2.1) (K : Ex g M d kc ks (pc + 1) ((als.set (i : Nat) (some (.long x))).set ((i : Nat) + 1) none) st h Q) : Ex g M d kc ks pc als (.long x :: st) h Q := ex_lstore_n hd (okS_1 ho) (okS_2 ho) hn K
theorem sx_lstore {i : Nat} {x : Int64} (hd : decode M.2.1 pc = .ok (.lstore i, 2)) (ho : okS als i = true) (hn : i + 1 < M.2.2.1) (K : Ex g M d kc ks (pc + 2) ((als.set i (some (.long x))).set (i + 1) none) st h Q) : Ex g M d kc ks pc als (.long x :: st) h Q := ex_lstore hd (okS_1 ho) (okS_2 ho) hn K
theorem sx_iinc {i : Nat} {n : Int} {x : Int32} (hd : decode M.2.1 pc = .ok (.iinc i n, 3)) (hx : als[i]? = some (some (.int x))) (ho : okI als i = true) (hn : i < M.2.2.1) (K : Ex g M d kc ks (pc + 3) (als.set i (some (.int (x + Int32.ofInt n)))) st h Q) : Ex g M d kc ks pc als st h Q := ex_iinc hd hx rfl ho hn K
theorem sx_inc {i k : Nat} (hd : decode M.2.1 pc = .ok (.iinc i 1, 3)) (hx : als[i]? = some (some (.int (nI k)))) (ho : okI als i = true) (hn : i < M.2.2.1) (K : Ex g M d kc ks (pc + 3) (als.set i (some (.int (nI (k + 1))))) st h Q) : Ex g M d kc ks pc als st h Q := ex_iinc hd hx (nI_1 k) ho hn K
theorem bx_if_eq_t {x : Int32} {off : Int} {tgt : Nat} (hd : decode M.2.1 pc = .ok (.ifCond .eq off, 3)) (ht : (pc : Int) + off = (tgt : Int)) (hc : x = 0) (K : Ex g M d kc ks tgt als st h Q) : Ex g M d kc ks pc als (.int x :: st) h Q := ex_if_eq hd ht (fun _ => K) (fun z => absurd hc z)
theorem bx_if_eq_f {x : Int32} {off : Int} {tgt : Nat} (hd : decode M.2.1 pc = .ok (.ifCond .eq off, 3)) (ht : (pc : Int) + off = (tgt : Int)) (hc : ¬ (x = 0)) (K : Ex g M d kc ks (pc + 3) als st h Q) : Ex g M d kc ks pc als (.int x :: st) h Q := ex_if_eq hd ht (fun z => absurd z hc) (fun _ => K)
theorem bx_icmp_eq_t {x y : Int32} {off : Int} {tgt : Nat} (hd : decode M.2.1 pc = .ok (.if_icmp .eq off, 3)) (ht : (pc : Int) + off = (tgt : Int)) (hc : x = y) (K : Ex g M d kc ks tgt als st h Q) : Ex g M d kc ks pc als (.int y :: .int x :: st) h Q := ex_icmp_eq hd ht (fun _ => K) (fun z => absurd hc z)
theorem bx_icmp_eq_f {x y : Int32} {off : Int} {tgt : Nat} (hd : decode M.2.1 pc = .ok (.if_icmp .eq off, 3)) (ht : (pc : Int) + off = (tgt : Int)) (hc : ¬ (x = y)) (K : Ex g M d kc ks (pc + 3) als st h Q) : Ex g M d kc ks pc als (.int y :: .int x :: st) h Q := ex_icmp_eq hd ht (fun z => absurd z hc) (fun _ => K)
theorem bx_if_ne_t {x : Int32} {off : Int} {tgt : Nat} (hd : decode M.2.1 pc = .ok (.ifCond .ne off, 3)) (ht : (pc : Int) + off = (tgt : Int)) (hc : ¬ x = 0) (K : Ex g M d kc ks tgt als st h Q) : Ex g M d kc ks pc als (.int x :: st) h Q := ex_if_ne hd ht (fun _ => K) (fun z => absurd hc (fun q => q z))
theorem bx_if_ne_f {x : Int32} {off : Int} {tgt : Nat} (hd : decode M.2.1 pc = .ok (.ifCond .ne off, 3)) (ht : (pc : Int) + off = (tgt : Int)) (hc : x = 0) (K : Ex g M d kc ks (pc + 3) als st h Q) : Ex g M d kc ks pc als (.int x :: st) h Q := ex_if_ne hd ht (fun z => absurd hc z) (fun _ => K)
theorem bx_icmp_ne_t {x y : Int32} {off : Int} {tgt : Nat} (hd : decode M.2.1 pc = .ok (.if_icmp .ne off, 3)) (ht : (pc : Int) + off = (tgt : Int)) (hc : ¬ x = y) (K : Ex g M d kc ks tgt als st h Q) : Ex g M d kc ks pc als (.int y :: .int x :: st) h Q := ex_icmp_ne hd ht (fun _ => K) (fun z => absurd hc (fun q => q z))
theorem bx_icmp_ne_f {x y : Int32} {off : Int} {tgt : Nat} (hd : decode M.2.1 pc = .ok (.if_icmp .ne off, 3)) (ht : (pc : Int) + off = (tgt : Int)) (hc : x = y) (K : Ex g M d kc ks (pc + 3) als st h Q) : Ex g M d kc ks pc als (.int y :: .int x :: st) h Q := ex_icmp_ne hd ht (fun z => absurd hc z) (fun _ => K)
theorem bx_if_lt_t {x : Int32} {off : Int} {tgt : Nat} (hd : decode M.2.1 pc = .ok (.ifCond .lt off, 3)) (ht : (pc : Int) + off = (tgt : Int)) (hc : x < 0) (K : Ex g M d kc ks tgt als st h Q) : Ex g M d kc ks pc als (.int x :: st) h Q := ex_if_lt hd ht (fun _ => K) (fun z => absurd hc z)
theorem bx_if_lt_f {x : Int32} {off : Int} {tgt : Nat} (hd : decode M.2.1 pc = .ok (.ifCond .lt off, 3)) (ht : (pc : Int) + off = (tgt : Int)) (hc : ¬ (x < 0)) (K : Ex g M d kc ks (pc + 3) als st h Q) : Ex g M d kc ks pc als (.int x :: st) h Q := ex_if_lt hd ht (fun z => absurd z hc) (fun _ => K)
theorem bx_icmp_lt_t {x y : Int32} {off : Int} {tgt : Nat} (hd : decode M.2.1 pc = .ok (.if_icmp .lt off, 3)) (ht : (pc : Int) + off = (tgt : Int)) (hc : x < y) (K : Ex g M d kc ks tgt als st h Q) : Ex g M d kc ks pc als (.int y :: .int x :: st) h Q := ex_icmp_lt hd ht (fun _ => K) (fun z => absurd hc z)
theorem bx_icmp_lt_f {x y : Int32} {off : Int} {tgt : Nat} (hd : decode M.2.1 pc = .ok (.if_icmp .lt off, 3)) (ht : (pc : Int) + off = (tgt : Int)) (hc : ¬ (x < y)) (K : Ex g M d kc ks (pc + 3) als st h Q) : Ex g M d kc ks pc als (.int y :: .int x :: st) h Q := ex_icmp_lt hd ht (fun z => absurd z hc) (fun _ => K)
theorem bx_if_ge_t {x : Int32} {off : Int} {tgt : Nat} (hd : decode M.2.1 pc = .ok (.ifCond .ge off, 3)) (ht : (pc : Int) + off = (tgt : Int)) (hc : 0 ≤ x) (K : Ex g M d kc ks tgt als st h Q) : Ex g M d kc ks pc als (.int x :: st) h Q := ex_if_ge hd ht (fun _ => K) (fun z => absurd hc z)
theorem bx_if_ge_f {x : Int32} {off : Int} {tgt : Nat} (hd : decode M.2.1 pc = .ok (.ifCond .ge off, 3)) (ht : (pc : Int) + off = (tgt : Int)) (hc : ¬ (0 ≤ x)) (K : Ex g M d kc ks (pc + 3) als st h Q) : Ex g M d kc ks pc als (.int x :: st) h Q := ex_if_ge hd ht (fun z => absurd z hc) (fun _ => K)
theorem bx_icmp_ge_t {x y : Int32} {off : Int} {tgt : Nat} (hd : decode M.2.1 pc = .ok (.if_icmp .ge off, 3)) (ht : (pc : Int) + off = (tgt : Int)) (hc : y ≤ x) (K : Ex g M d kc ks tgt als st h Q) : Ex g M d kc ks pc als (.int y :: .int x :: st) h Q := ex_icmp_ge hd ht (fun _ => K) (fun z => absurd hc z)
theorem bx_icmp_ge_f {x y : Int32} {off : Int} {tgt : Nat} (hd : decode M.2.1 pc = .ok (.if_icmp .ge off, 3)) (ht : (pc : Int) + off = (tgt : Int)) (hc : ¬ (y ≤ x)) (K : Ex g M d kc ks (pc + 3) als st h Q) : Ex g M d kc ks pc als (.int y :: .int x :: st) h Q := ex_icmp_ge hd ht (fun z => absurd z hc) (fun _ => K)
theorem bx_if_gt_t {x : Int32} {off : Int} {tgt : Nat} (hd : decode M.2.1 pc = .ok (.ifCond .gt off, 3)) (ht : (pc : Int) + off = (tgt : Int)) (hc : 0 < x) (K : Ex g M d kc ks tgt als st h Q) : Ex g M d kc ks pc als (.int x :: st) h Q := ex_if_gt hd ht (fun _ => K) (fun z => absurd hc z)
theorem bx_if_gt_f {x : Int32} {off : Int} {tgt : Nat} (hd : decode M.2.1 pc = .ok (.ifCond .gt off, 3)) (ht : (pc : Int) + off = (tgt : Int)) (hc : ¬ (0 < x)) (K : Ex g M d kc ks (pc + 3) als st h Q) : Ex g M d kc ks pc als (.int x :: st) h Q := ex_if_gt hd ht (fun z => absurd z hc) (fun _ => K)
theorem bx_icmp_gt_t {x y : Int32} {off : Int} {tgt : Nat} (hd : decode M.2.1 pc = .ok (.if_icmp .gt off, 3)) (ht : (pc : Int) + off = (tgt : Int)) (hc : y < x) (K : Ex g M d kc ks tgt als st h Q) : Ex g M d kc ks pc als (.int y :: .int x :: st) h Q := ex_icmp_gt hd ht (fun _ => K) (fun z => absurd hc z)
theorem bx_icmp_gt_f {x y : Int32} {off : Int} {tgt : Nat} (hd : decode M.2.1 pc = .ok (.if_icmp .gt off, 3)) (ht : (pc : Int) + off = (tgt : Int)) (hc : ¬ (y < x)) (K : Ex g M d kc ks (pc + 3) als st h Q) : Ex g M d kc ks pc als (.int y :: .int x :: st) h Q := ex_icmp_gt hd ht (fun z => absurd z hc) (fun _ => K)
theorem bx_if_le_t {x : Int32} {off : Int} {tgt : Nat} (hd : decode M.2.1 pc = .ok (.ifCond .le off, 3)) (ht : (pc : Int) + off = (tgt : Int)) (hc : x ≤ 0) (K : Ex g M d kc ks tgt als st h Q) : Ex g M d kc ks pc als (.int x :: st) h Q := ex_if_le hd ht (fun _ => K) (fun z => absurd hc z)
theorem bx_if_le_f {x : Int32} {off : Int} {tgt : Nat} (hd : decode M.2.1 pc = .ok (.ifCond .le off, 3)) (ht : (pc : Int) + off = (tgt : Int)) (hc : ¬ (x ≤ 0)) (K : Ex g M d kc ks (pc + 3) als st h Q) : Ex g M d kc ks pc als (.int x :: st) h Q := ex_if_le hd ht (fun z => absurd z hc) (fun _ => K)
theorem bx_icmp_le_t {x y : Int32} {off : Int} {tgt : Nat} (hd : decode M.2.1 pc = .ok (.if_icmp .le off, 3)) (ht : (pc : Int) + off = (tgt : Int)) (hc : x ≤ y) (K : Ex g M d kc ks tgt als st h Q) : Ex g M d kc ks pc als (.int y :: .int x :: st) h Q := ex_icmp_le hd ht (fun _ => K) (fun z => absurd hc z)
theorem bx_icmp_le_f {x y : Int32} {off : Int} {tgt : Nat} (hd : decode M.2.1 pc = .ok (.if_icmp .le off, 3)) (ht : (pc : Int) + off = (tgt : Int)) (hc : ¬ (x ≤ y)) (K : Ex g M d kc ks (pc + 3) als st h Q) : Ex g M d kc ks pc als (.int y :: .int x :: st) h Q := ex_icmp_le hd ht (fun z => absurd z hc) (fun _ => K)
theorem ex_tsw {dflt lo hi : Int} {offs : Array Int} {len : Nat} {x : Int32} {n l0 : Nat} {tg : Nat → Nat} {td : Nat} (hd : decode M.2.1 pc = .ok (.tableswitch dflt lo hi offs, len)) (hlo : lo = (l0 : Int)) (hhi : hi = (l0 : Int) + n - 1) (ho : ∀ j, j < n → (offs[j]?).map (fun off => (pc : Int) + off) = some (tg j : Int)) (ht : (pc : Int) + dflt = (td : Int)) (hb : l0 + n ≤ 2147483648)
    (K1 : ∀ j, j < n → x = nI (l0 + j) → Ex g M d kc ks (tg j) als st h Q) (K2 : (∀ j, j < n → ¬ x = nI (l0 + j)) → Ex g M d kc ks td als st h Q) : Ex g M d kc ks pc als (.int x :: st) h Q := by
  have hx2 : x.toInt < 2147483648 := Int32.toInt_lt x
  by_cases hr : lo ≤ x.toInt ∧ x.toInt ≤ hi
  · have hj : (x.toInt - lo).toNat < n := by omega
    have e : x = nI (l0 + (x.toInt - lo).toNat) := Int32.toInt_inj.mp (by rw [nI_toInt (by omega)]; omega)
    have h1 := ho _ hj
    cases h2 : offs[(x.toInt - lo).toNat]? with
    | none => rw [h2] at h1; cases h1
    | some off =>
      rw [h2] at h1
      exact ex_tableIn hd (by omega) (by omega) h2 (Option.some.inj h1) (K1 _ hj e)
  · refine ex_tableOut hd (by omega) ht (K2 (fun j hj e => hr ?_))
    have : x.toInt = ((l0 + j : Nat) : Int) := by rw [e]; exact nI_toInt (by omega)
    omega
theorem osw_none : ∀ (l : List (Int × Int)) (d z : Int), (∀ q ∈ l, ¬ z = q.1) → Op.lookupswitch.offset l d z = d := by
  intro l
  induction l with
  | nil => intro d z _; rfl
  | cons a l ih =>
    intro d z hz
    obtain ⟨a1, a2⟩ := a
    rw [Op.lookupswitch.offset_cons, if_neg (fun q => hz (a1, a2) List.mem_cons_self q.symm)]
    exact ih d z (fun q hq => hz q (List.mem_cons_of_mem _ hq))
theorem ex_lsw {dflt : Int} {ps : Array (Int × Int)} {len : Nat} {x : Int32} {ks0 : List Nat} {tg : Nat → Nat} {td : Nat} (hd : decode M.2.1 pc = .ok (.lookupswitch dflt ps, len)) (hp : (ps.toList.zip (ps.toList.drop 1)).all (fun (a, next) => a.1 < next.1) = true ∧ ps.toList.map (fun q => q.1) = ks0.map (fun (k : Nat) => (k : Int)) ∧ ∀ k ∈ ks0, k < 2147483648) (ho : ∀ j, j < ks0.length → (pc : Int) + Op.lookupswitch.offset ps.toList dflt ((ks0.getD j 0 : Nat) : Int) = (tg j : Int)) (ht : (pc : Int) + dflt = (td : Int))
    (K1 : ∀ j, j < ks0.length → x = nI (ks0.getD j 0) → Ex g M d kc ks (tg j) als st h Q) (K2 : (∀ j, j < ks0.length → ¬ x = nI (ks0.getD j 0)) → Ex g M d kc ks td als st h Q) : Ex g M d kc ks pc als (.int x :: st) h Q := by
  have hb : ∀ j, j < ks0.length → ks0.getD j 0 < 2147483648 := fun j hj => by
    have e : ks0.getD j 0 = ks0[j] := by rw [List.getD_eq_getElem?_getD, List.getElem?_eq_getElem hj]; rfl
    rw [e]; exact hp.2.2 _ (List.getElem_mem hj)
  by_cases hx : ∃ j, j < ks0.length ∧ x = nI (ks0.getD j 0)
  · obtain ⟨j, hj, e⟩ := hx
    have e2 : x.toInt = ((ks0.getD j 0 : Nat) : Int) := by rw [e]; exact nI_toInt (hb j hj)
    exact ex_lookup hd hp.1 rfl (by rw [e2]; exact ho j hj) (K1 j hj e)
  · refine ex_lookup hd hp.1 (osw_none _ _ _ (fun q hq z => hx ?_)) ht (K2 (fun j hj e => hx ⟨j, hj, e⟩))
    have hm : q.1 ∈ ks0.map (fun (k : Nat) => (k : Int)) := by rw [← hp.2.1]; exact List.mem_map.mpr ⟨q, hq, rfl⟩
    obtain ⟨k, hk, e⟩ := List.mem_map.mp hm
    obtain ⟨j, hj⟩ := List.getElem?_of_mem hk
    have hl := (List.getElem?_eq_some_iff.mp hj).1
    have e3 : ks0.getD j 0 = k := by rw [List.getD_eq_getElem?_getD, hj]; rfl
    exact ⟨j, hl, Int32.toInt_inj.mp (by rw [e3, nI_toInt (hp.2.2 k hk), z, ← e])⟩
theorem cx_IL0v {b : Nat} {P : AH → Prop} (hd : decode M.2.1 pc = .ok (.invokespecial idx, 3)) (hL : IL M.1.cls idx M' 0) (hE : entL M'.2.2.1 (.ref b :: []) = als0) (hAs : (lg_sl (.ref b :: [])).length ≤ M'.2.2.1) (hrest : (rest.map fun v => v.category).sum ≤ 8) (h1 : 1 ≤ d) (K' : Ex g M' (d - 1) 0 0 0 als0 [] h (qv P)) (K : ∀ h', P h' → Ex g M d kc ks (pc + 3) als (rest) h' Q) : Ex g M d kc ks pc als (.ref b :: rest) h Q := by
  subst hE
  rw [← Nat.zero_add kc, ← Nat.zero_add ks]
  exact ex_callI (As := []) (rest := rest) hd hL rfl rfl hAs hrest h1 K' (fun h' r hq hl => by obtain ⟨rfl, hp⟩ := hq; exact K h' hp)
theorem cx_IL0vA {b : Nat} {P : AH → Prop} (hd : decode M.2.1 pc = .ok (.invokespecial idx, 3)) (hL : IL M.1.cls idx M' 0) (hE : entL M'.2.2.1 (.ref b :: []) = als0) (hAs : (lg_sl (.ref b :: [])).length ≤ M'.2.2.1) (hrest : (rest.map fun v => v.category).sum ≤ 8) (h1 : 1 ≤ d) (K' : Ex g M' (d - 1) kc' ks' 0 als0 [] h (qv P)) (K : ∀ h', P h' → h'.length = h.length + kc' → Ex g M d kc ks (pc + 3) als (rest) h' Q) : Ex g M d (kc' + kc) (ks' + ks) pc als (.ref b :: rest) h Q := by
  subst hE
  exact ex_callI (As := []) (rest := rest) hd hL rfl rfl hAs hrest h1 K' (fun h' r hq hl => by obtain ⟨rfl, hp⟩ := hq; exact K h' hp hl)
theorem cx_IL3v {b : Nat} {a0 a1 a2 : Value} {P : AH → Prop} (hd : decode M.2.1 pc = .ok (.invokespecial idx, 3)) (hL : IL M.1.cls idx M' 3) (hE : entL M'.2.2.1 (.ref b :: [a0, a1, a2]) = als0) (hAs : (lg_sl (.ref b :: [a0, a1, a2])).length ≤ M'.2.2.1) (hrest : (rest.map fun v => v.category).sum ≤ 8) (h1 : 1 ≤ d) (K' : Ex g M' (d - 1) 0 0 0 als0 [] h (qv P)) (K : ∀ h', P h' → Ex g M d kc ks (pc + 3) als (rest) h' Q) : Ex g M d kc ks pc als (a2 :: a1 :: a0 :: .ref b :: rest) h Q := by
  subst hE
  rw [← Nat.zero_add kc, ← Nat.zero_add ks]
  exact ex_callI (As := [a0, a1, a2]) (rest := rest) hd hL rfl rfl hAs hrest h1 K' (fun h' r hq hl => by obtain ⟨rfl, hp⟩ := hq; exact K h' hp)
theorem cx_IL3vA {b : Nat} {a0 a1 a2 : Value} {P : AH → Prop} (hd : decode M.2.1 pc = .ok (.invokespecial idx, 3)) (hL : IL M.1.cls idx M' 3) (hE : entL M'.2.2.1 (.ref b :: [a0, a1, a2]) = als0) (hAs : (lg_sl (.ref b :: [a0, a1, a2])).length ≤ M'.2.2.1) (hrest : (rest.map fun v => v.category).sum ≤ 8) (h1 : 1 ≤ d) (K' : Ex g M' (d - 1) kc' ks' 0 als0 [] h (qv P)) (K : ∀ h', P h' → h'.length = h.length + kc' → Ex g M d kc ks (pc + 3) als (rest) h' Q) : Ex g M d (kc' + kc) (ks' + ks) pc als (a2 :: a1 :: a0 :: .ref b :: rest) h Q := by
  subst hE
  exact ex_callI (As := [a0, a1, a2]) (rest := rest) hd hL rfl rfl hAs hrest h1 K' (fun h' r hq hl => by obtain ⟨rfl, hp⟩ := hq; exact K h' hp hl)
theorem cx_IN0v {b : Nat} {P : AH → Prop} (hd : decode M.2.1 pc = .ok (.invokespecial idx, 3)) (hL : IN M.1.cls idx M' 0) (hE : entL M'.2.2.1 (.ref b :: []) = als0) (hAs : (lg_sl (.ref b :: [])).length ≤ M'.2.2.1) (hrest : (rest.map fun v => v.category).sum ≤ 8) (h1 : 1 ≤ d) (K' : Ex g M' (d - 1) 0 0 0 als0 [] h (qv P)) (K : ∀ h', P h' → Ex g M d kc ks (pc + 3) als (rest) h' Q) : Ex g M d kc ks pc als (.ref b :: rest) h Q := by
  subst hE
  rw [← Nat.zero_add kc, ← Nat.zero_add ks]
  exact ex_callIN (As := []) (rest := rest) hd hL rfl rfl hAs hrest h1 K' (fun h' r hq hl => by obtain ⟨rfl, hp⟩ := hq; exact K h' hp)
theorem cx_IN0vA {b : Nat} {P : AH → Prop} (hd : decode M.2.1 pc = .ok (.invokespecial idx, 3)) (hL : IN M.1.cls idx M' 0) (hE : entL M'.2.2.1 (.ref b :: []) = als0) (hAs : (lg_sl (.ref b :: [])).length ≤ M'.2.2.1) (hrest : (rest.map fun v => v.category).sum ≤ 8) (h1 : 1 ≤ d) (K' : Ex g M' (d - 1) kc' ks' 0 als0 [] h (qv P)) (K : ∀ h', P h' → h'.length = h.length + kc' → Ex g M d kc ks (pc + 3) als (rest) h' Q) : Ex g M d (kc' + kc) (ks' + ks) pc als (.ref b :: rest) h Q := by
  subst hE
  exact ex_callIN (As := []) (rest := rest) hd hL rfl rfl hAs hrest h1 K' (fun h' r hq hl => by obtain ⟨rfl, hp⟩ := hq; exact K h' hp hl)
theorem cx_SL1i {a0 : Value} {P : AH → Int32 → Prop} (hd : decode M.2.1 pc = .ok (.invokestatic idx, 3)) (hL : SL M.1.cls idx M' 1) (hE : entL M'.2.2.1 [a0] = als0) (hAs : (lg_sl [a0]).length ≤ M'.2.2.1) (hrest : (rest.map fun v => v.category).sum ≤ 8) (h1 : 1 ≤ d) (K' : Ex g M' (d - 1) 0 0 0 als0 [] h (qi P)) (K : ∀ h' x, P h' x → Ex g M d kc ks (pc + 3) als (.int x :: rest) h' Q) : Ex g M d kc ks pc als (a0 :: rest) h Q := by
  subst hE
  rw [← Nat.zero_add kc, ← Nat.zero_add ks]
  exact ex_callS (As := [a0]) (rest := rest) hd hL rfl rfl hAs hrest h1 K' (fun h' r hq hl => by obtain ⟨x, rfl, hp⟩ := hq; exact K h' x hp)
theorem cx_SL1iA {a0 : Value} {P : AH → Int32 → Prop} (hd : decode M.2.1 pc = .ok (.invokestatic idx, 3)) (hL : SL M.1.cls idx M' 1) (hE : entL M'.2.2.1 [a0] = als0) (hAs : (lg_sl [a0]).length ≤ M'.2.2.1) (hrest : (rest.map fun v => v.category).sum ≤ 8) (h1 : 1 ≤ d) (K' : Ex g M' (d - 1) kc' ks' 0 als0 [] h (qi P)) (K : ∀ h' x, P h' x → h'.length = h.length + kc' → Ex g M d kc ks (pc + 3) als (.int x :: rest) h' Q) : Ex g M d (kc' + kc) (ks' + ks) pc als (a0 :: rest) h Q := by
  subst hE
  exact ex_callS (As := [a0]) (rest := rest) hd hL rfl rfl hAs hrest h1 K' (fun h' r hq hl => by obtain ⟨x, rfl, hp⟩ := hq; exact K h' x hp hl)
theorem cx_SL1l {a0 : Value} {P : AH → Int64 → Prop} (hd : decode M.2.1 pc = .ok (.invokestatic idx, 3)) (hL : SL M.1.cls idx M' 1) (hE : entL M'.2.2.1 [a0] = als0) (hAs : (lg_sl [a0]).length ≤ M'.2.2.1) (hrest : (rest.map fun v => v.category).sum ≤ 8) (h1 : 1 ≤ d) (K' : Ex g M' (d - 1) 0 0 0 als0 [] h (ql P)) (K : ∀ h' x, P h' x → Ex g M d kc ks (pc + 3) als (.long x :: rest) h' Q) : Ex g M d kc ks pc als (a0 :: rest) h Q := by
  subst hE
  rw [← Nat.zero_add kc, ← Nat.zero_add ks]
  exact ex_callS (As := [a0]) (rest := rest) hd hL rfl rfl hAs hrest h1 K' (fun h' r hq hl => by obtain ⟨x, rfl, hp⟩ := hq; exact K h' x hp)
theorem cx_SL1lA {a0 : Value} {P : AH → Int64 → Prop} (hd : decode M.2.1 pc = .ok (.invokestatic idx, 3)) (hL : SL M.1.cls idx M' 1) (hE : entL M'.2.2.1 [a0] = als0) (hAs : (lg_sl [a0]).length ≤ M'.2.2.1) (hrest : (rest.map fun v => v.category).sum ≤ 8) (h1 : 1 ≤ d) (K' : Ex g M' (d - 1) kc' ks' 0 als0 [] h (ql P)) (K : ∀ h' x, P h' x → h'.length = h.length + kc' → Ex g M d kc ks (pc + 3) als (.long x :: rest) h' Q) : Ex g M d (kc' + kc) (ks' + ks) pc als (a0 :: rest) h Q := by
  subst hE
  exact ex_callS (As := [a0]) (rest := rest) hd hL rfl rfl hAs hrest h1 K' (fun h' r hq hl => by obtain ⟨x, rfl, hp⟩ := hq; exact K h' x hp hl)
theorem cx_SL2i {a0 a1 : Value} {P : AH → Int32 → Prop} (hd : decode M.2.1 pc = .ok (.invokestatic idx, 3)) (hL : SL M.1.cls idx M' 2) (hE : entL M'.2.2.1 [a0, a1] = als0) (hAs : (lg_sl [a0, a1]).length ≤ M'.2.2.1) (hrest : (rest.map fun v => v.category).sum ≤ 8) (h1 : 1 ≤ d) (K' : Ex g M' (d - 1) 0 0 0 als0 [] h (qi P)) (K : ∀ h' x, P h' x → Ex g M d kc ks (pc + 3) als (.int x :: rest) h' Q) : Ex g M d kc ks pc als (a1 :: a0 :: rest) h Q := by
  subst hE
  rw [← Nat.zero_add kc, ← Nat.zero_add ks]
  exact ex_callS (As := [a0, a1]) (rest := rest) hd hL rfl rfl hAs hrest h1 K' (fun h' r hq hl => by obtain ⟨x, rfl, hp⟩ := hq; exact K h' x hp)
theorem cx_SL2iA {a0 a1 : Value} {P : AH → Int32 → Prop} (hd : decode M.2.1 pc = .ok (.invokestatic idx, 3)) (hL : SL M.1.cls idx M' 2) (hE : entL M'.2.2.1 [a0, a1] = als0) (hAs : (lg_sl [a0, a1]).length ≤ M'.2.2.1) (hrest : (rest.map fun v => v.category).sum ≤ 8) (h1 : 1 ≤ d) (K' : Ex g M' (d - 1) kc' ks' 0 als0 [] h (qi P)) (K : ∀ h' x, P h' x → h'.length = h.length + kc' → Ex g M d kc ks (pc + 3) als (.int x :: rest) h' Q) : Ex g M d (kc' + kc) (ks' + ks) pc als (a1 :: a0 :: rest) h Q := by
  subst hE
  exact ex_callS (As := [a0, a1]) (rest := rest) hd hL rfl rfl hAs hrest h1 K' (fun h' r hq hl => by obtain ⟨x, rfl, hp⟩ := hq; exact K h' x hp hl)
theorem cx_SL2v {a0 a1 : Value} {P : AH → Prop} (hd : decode M.2.1 pc = .ok (.invokestatic idx, 3)) (hL : SL M.1.cls idx M' 2) (hE : entL M'.2.2.1 [a0, a1] = als0) (hAs : (lg_sl [a0, a1]).length ≤ M'.2.2.1) (hrest : (rest.map fun v => v.category).sum ≤ 8) (h1 : 1 ≤ d) (K' : Ex g M' (d - 1) 0 0 0 als0 [] h (qv P)) (K : ∀ h', P h' → Ex g M d kc ks (pc + 3) als (rest) h' Q) : Ex g M d kc ks pc als (a1 :: a0 :: rest) h Q := by
  subst hE
  rw [← Nat.zero_add kc, ← Nat.zero_add ks]
  exact ex_callS (As := [a0, a1]) (rest := rest) hd hL rfl rfl hAs hrest h1 K' (fun h' r hq hl => by obtain ⟨rfl, hp⟩ := hq; exact K h' hp)
theorem cx_SL2vA {a0 a1 : Value} {P : AH → Prop} (hd : decode M.2.1 pc = .ok (.invokestatic idx, 3)) (hL : SL M.1.cls idx M' 2) (hE : entL M'.2.2.1 [a0, a1] = als0) (hAs : (lg_sl [a0, a1]).length ≤ M'.2.2.1) (hrest : (rest.map fun v => v.category).sum ≤ 8) (h1 : 1 ≤ d) (K' : Ex g M' (d - 1) kc' ks' 0 als0 [] h (qv P)) (K : ∀ h', P h' → h'.length = h.length + kc' → Ex g M d kc ks (pc + 3) als (rest) h' Q) : Ex g M d (kc' + kc) (ks' + ks) pc als (a1 :: a0 :: rest) h Q := by
  subst hE
  exact ex_callS (As := [a0, a1]) (rest := rest) hd hL rfl rfl hAs hrest h1 K' (fun h' r hq hl => by obtain ⟨rfl, hp⟩ := hq; exact K h' hp hl)
theorem cx_SL3i {a0 a1 a2 : Value} {P : AH → Int32 → Prop} (hd : decode M.2.1 pc = .ok (.invokestatic idx, 3)) (hL : SL M.1.cls idx M' 3) (hE : entL M'.2.2.1 [a0, a1, a2] = als0) (hAs : (lg_sl [a0, a1, a2]).length ≤ M'.2.2.1) (hrest : (rest.map fun v => v.category).sum ≤ 8) (h1 : 1 ≤ d) (K' : Ex g M' (d - 1) 0 0 0 als0 [] h (qi P)) (K : ∀ h' x, P h' x → Ex g M d kc ks (pc + 3) als (.int x :: rest) h' Q) : Ex g M d kc ks pc als (a2 :: a1 :: a0 :: rest) h Q := by
  subst hE
  rw [← Nat.zero_add kc, ← Nat.zero_add ks]
  exact ex_callS (As := [a0, a1, a2]) (rest := rest) hd hL rfl rfl hAs hrest h1 K' (fun h' r hq hl => by obtain ⟨x, rfl, hp⟩ := hq; exact K h' x hp)
theorem cx_SL3iA {a0 a1 a2 : Value} {P : AH → Int32 → Prop} (hd : decode M.2.1 pc = .ok (.invokestatic idx, 3)) (hL : SL M.1.cls idx M' 3) (hE : entL M'.2.2.1 [a0, a1, a2] = als0) (hAs : (lg_sl [a0, a1, a2]).length ≤ M'.2.2.1) (hrest : (rest.map fun v => v.category).sum ≤ 8) (h1 : 1 ≤ d) (K' : Ex g M' (d - 1) kc' ks' 0 als0 [] h (qi P)) (K : ∀ h' x, P h' x → h'.length = h.length + kc' → Ex g M d kc ks (pc + 3) als (.int x :: rest) h' Q) : Ex g M d (kc' + kc) (ks' + ks) pc als (a2 :: a1 :: a0 :: rest) h Q := by
  subst hE
  exact ex_callS (As := [a0, a1, a2]) (rest := rest) hd hL rfl rfl hAs hrest h1 K' (fun h' r hq hl => by obtain ⟨x, rfl, hp⟩ := hq; exact K h' x hp hl)
theorem cx_SL3v {a0 a1 a2 : Value} {P : AH → Prop} (hd : decode M.2.1 pc = .ok (.invokestatic idx, 3)) (hL : SL M.1.cls idx M' 3) (hE : entL M'.2.2.1 [a0, a1, a2] = als0) (hAs : (lg_sl [a0, a1, a2]).length ≤ M'.2.2.1) (hrest : (rest.map fun v => v.category).sum ≤ 8) (h1 : 1 ≤ d) (K' : Ex g M' (d - 1) 0 0 0 als0 [] h (qv P)) (K : ∀ h', P h' → Ex g M d kc ks (pc + 3) als (rest) h' Q) : Ex g M d kc ks pc als (a2 :: a1 :: a0 :: rest) h Q := by
  subst hE
  rw [← Nat.zero_add kc, ← Nat.zero_add ks]
  exact ex_callS (As := [a0, a1, a2]) (rest := rest) hd hL rfl rfl hAs hrest h1 K' (fun h' r hq hl => by obtain ⟨rfl, hp⟩ := hq; exact K h' hp)
theorem cx_SL3vA {a0 a1 a2 : Value} {P : AH → Prop} (hd : decode M.2.1 pc = .ok (.invokestatic idx, 3)) (hL : SL M.1.cls idx M' 3) (hE : entL M'.2.2.1 [a0, a1, a2] = als0) (hAs : (lg_sl [a0, a1, a2]).length ≤ M'.2.2.1) (hrest : (rest.map fun v => v.category).sum ≤ 8) (h1 : 1 ≤ d) (K' : Ex g M' (d - 1) kc' ks' 0 als0 [] h (qv P)) (K : ∀ h', P h' → h'.length = h.length + kc' → Ex g M d kc ks (pc + 3) als (rest) h' Q) : Ex g M d (kc' + kc) (ks' + ks) pc als (a2 :: a1 :: a0 :: rest) h Q := by
  subst hE
  exact ex_callS (As := [a0, a1, a2]) (rest := rest) hd hL rfl rfl hAs hrest h1 K' (fun h' r hq hl => by obtain ⟨rfl, hp⟩ := hq; exact K h' hp hl)
theorem cx_SL4i {a0 a1 a2 a3 : Value} {P : AH → Int32 → Prop} (hd : decode M.2.1 pc = .ok (.invokestatic idx, 3)) (hL : SL M.1.cls idx M' 4) (hE : entL M'.2.2.1 [a0, a1, a2, a3] = als0) (hAs : (lg_sl [a0, a1, a2, a3]).length ≤ M'.2.2.1) (hrest : (rest.map fun v => v.category).sum ≤ 8) (h1 : 1 ≤ d) (K' : Ex g M' (d - 1) 0 0 0 als0 [] h (qi P)) (K : ∀ h' x, P h' x → Ex g M d kc ks (pc + 3) als (.int x :: rest) h' Q) : Ex g M d kc ks pc als (a3 :: a2 :: a1 :: a0 :: rest) h Q := by
  subst hE
  rw [← Nat.zero_add kc, ← Nat.zero_add ks]
  exact ex_callS (As := [a0, a1, a2, a3]) (rest := rest) hd hL rfl rfl hAs hrest h1 K' (fun h' r hq hl => by obtain ⟨x, rfl, hp⟩ := hq; exact K h' x hp)
theorem cx_SL4iA {a0 a1 a2 a3 : Value} {P : AH → Int32 → Prop} (hd : decode M.2.1 pc = .ok (.invokestatic idx, 3)) (hL : SL M.1.cls idx M' 4) (hE : entL M'.2.2.1 [a0, a1, a2, a3] = als0) (hAs : (lg_sl [a0, a1, a2, a3]).length ≤ M'.2.2.1) (hrest : (rest.map fun v => v.category).sum ≤ 8) (h1 : 1 ≤ d) (K' : Ex g M' (d - 1) kc' ks' 0 als0 [] h (qi P)) (K : ∀ h' x, P h' x → h'.length = h.length + kc' → Ex g M d kc ks (pc + 3) als (.int x :: rest) h' Q) : Ex g M d (kc' + kc) (ks' + ks) pc als (a3 :: a2 :: a1 :: a0 :: rest) h Q := by
  subst hE
  exact ex_callS (As := [a0, a1, a2, a3]) (rest := rest) hd hL rfl rfl hAs hrest h1 K' (fun h' r hq hl => by obtain ⟨x, rfl, hp⟩ := hq; exact K h' x hp hl)
theorem cx_SN1l {a0 : Value} {P : AH → Int64 → Prop} (hd : decode M.2.1 pc = .ok (.invokestatic idx, 3)) (hL : SN M.1.cls idx M' 1) (hE : entL M'.2.2.1 [a0] = als0) (hAs : (lg_sl [a0]).length ≤ M'.2.2.1) (hrest : (rest.map fun v => v.category).sum ≤ 8) (h1 : 1 ≤ d) (K' : Ex g M' (d - 1) 0 0 0 als0 [] h (ql P)) (K : ∀ h' x, P h' x → Ex g M d kc ks (pc + 3) als (.long x :: rest) h' Q) : Ex g M d kc ks pc als (a0 :: rest) h Q := by
  subst hE
  rw [← Nat.zero_add kc, ← Nat.zero_add ks]
  exact ex_callSN (As := [a0]) (rest := rest) hd hL rfl rfl hAs hrest h1 K' (fun h' r hq hl => by obtain ⟨x, rfl, hp⟩ := hq; exact K h' x hp)
theorem cx_SN1lA {a0 : Value} {P : AH → Int64 → Prop} (hd : decode M.2.1 pc = .ok (.invokestatic idx, 3)) (hL : SN M.1.cls idx M' 1) (hE : entL M'.2.2.1 [a0] = als0) (hAs : (lg_sl [a0]).length ≤ M'.2.2.1) (hrest : (rest.map fun v => v.category).sum ≤ 8) (h1 : 1 ≤ d) (K' : Ex g M' (d - 1) kc' ks' 0 als0 [] h (ql P)) (K : ∀ h' x, P h' x → h'.length = h.length + kc' → Ex g M d kc ks (pc + 3) als (.long x :: rest) h' Q) : Ex g M d (kc' + kc) (ks' + ks) pc als (a0 :: rest) h Q := by
  subst hE
  exact ex_callSN (As := [a0]) (rest := rest) hd hL rfl rfl hAs hrest h1 K' (fun h' r hq hl => by obtain ⟨x, rfl, hp⟩ := hq; exact K h' x hp hl)
theorem cx_SN2i {a0 a1 : Value} {P : AH → Int32 → Prop} (hd : decode M.2.1 pc = .ok (.invokestatic idx, 3)) (hL : SN M.1.cls idx M' 2) (hE : entL M'.2.2.1 [a0, a1] = als0) (hAs : (lg_sl [a0, a1]).length ≤ M'.2.2.1) (hrest : (rest.map fun v => v.category).sum ≤ 8) (h1 : 1 ≤ d) (K' : Ex g M' (d - 1) 0 0 0 als0 [] h (qi P)) (K : ∀ h' x, P h' x → Ex g M d kc ks (pc + 3) als (.int x :: rest) h' Q) : Ex g M d kc ks pc als (a1 :: a0 :: rest) h Q := by
  subst hE
  rw [← Nat.zero_add kc, ← Nat.zero_add ks]
  exact ex_callSN (As := [a0, a1]) (rest := rest) hd hL rfl rfl hAs hrest h1 K' (fun h' r hq hl => by obtain ⟨x, rfl, hp⟩ := hq; exact K h' x hp)
theorem cx_SN2iA {a0 a1 : Value} {P : AH → Int32 → Prop} (hd : decode M.2.1 pc = .ok (.invokestatic idx, 3)) (hL : SN M.1.cls idx M' 2) (hE : entL M'.2.2.1 [a0, a1] = als0) (hAs : (lg_sl [a0, a1]).length ≤ M'.2.2.1) (hrest : (rest.map fun v => v.category).sum ≤ 8) (h1 : 1 ≤ d) (K' : Ex g M' (d - 1) kc' ks' 0 als0 [] h (qi P)) (K : ∀ h' x, P h' x → h'.length = h.length + kc' → Ex g M d kc ks (pc + 3) als (.int x :: rest) h' Q) : Ex g M d (kc' + kc) (ks' + ks) pc als (a1 :: a0 :: rest) h Q := by
  subst hE
  exact ex_callSN (As := [a0, a1]) (rest := rest) hd hL rfl rfl hAs hrest h1 K' (fun h' r hq hl => by obtain ⟨x, rfl, hp⟩ := hq; exact K h' x hp hl)
theorem cx_VL0i {q ci : Nat} {fs : List Value} {P : AH → Int32 → Prop} (hd : decode M.2.1 pc = .ok (.invokevirtual idx, 3)) (hL : VL M.1.cls idx M' 0 ci) (he : h[q]? = some (ob ci fs)) (hE : entL M'.2.2.1 (.ref (g.1 + q) :: []) = als0) (hAs : (lg_sl (.ref (g.1 + q) :: [])).length ≤ M'.2.2.1) (hrest : (rest.map fun v => v.category).sum ≤ 8) (h1 : 1 ≤ d) (K' : Ex g M' (d - 1) 0 0 0 als0 [] h (qi P)) (K : ∀ h' x, P h' x → Ex g M d kc ks (pc + 3) als (.int x :: rest) h' Q) : Ex g M d kc ks pc als (.ref (g.1 + q) :: rest) h Q := by
  subst hE
  rw [← Nat.zero_add kc, ← Nat.zero_add ks]
  exact ex_callV (As := []) (rest := rest) hd hL rfl he rfl hAs hrest h1 K' (fun h' r hq hl => by obtain ⟨x, rfl, hp⟩ := hq; exact K h' x hp)
theorem cx_VL0iA {q ci : Nat} {fs : List Value} {P : AH → Int32 → Prop} (hd : decode M.2.1 pc = .ok (.invokevirtual idx, 3)) (hL : VL M.1.cls idx M' 0 ci) (he : h[q]? = some (ob ci fs)) (hE : entL M'.2.2.1 (.ref (g.1 + q) :: []) = als0) (hAs : (lg_sl (.ref (g.1 + q) :: [])).length ≤ M'.2.2.1) (hrest : (rest.map fun v => v.category).sum ≤ 8) (h1 : 1 ≤ d) (K' : Ex g M' (d - 1) kc' ks' 0 als0 [] h (qi P)) (K : ∀ h' x, P h' x → h'.length = h.length + kc' → Ex g M d kc ks (pc + 3) als (.int x :: rest) h' Q) : Ex g M d (kc' + kc) (ks' + ks) pc als (.ref (g.1 + q) :: rest) h Q := by
  subst hE
  exact ex_callV (As := []) (rest := rest) hd hL rfl he rfl hAs hrest h1 K' (fun h' r hq hl => by obtain ⟨x, rfl, hp⟩ := hq; exact K h' x hp hl)
theorem cx_VL0l {q ci : Nat} {fs : List Value} {P : AH → Int64 → Prop} (hd : decode M.2.1 pc = .ok (.invokevirtual idx, 3)) (hL : VL M.1.cls idx M' 0 ci) (he : h[q]? = some (ob ci fs)) (hE : entL M'.2.2.1 (.ref (g.1 + q) :: []) = als0) (hAs : (lg_sl (.ref (g.1 + q) :: [])).length ≤ M'.2.2.1) (hrest : (rest.map fun v => v.category).sum ≤ 8) (h1 : 1 ≤ d) (K' : Ex g M' (d - 1) 0 0 0 als0 [] h (ql P)) (K : ∀ h' x, P h' x → Ex g M d kc ks (pc + 3) als (.long x :: rest) h' Q) : Ex g M d kc ks pc als (.ref (g.1 + q) :: rest) h Q := by
  subst hE
  rw [← Nat.zero_add kc, ← Nat.zero_add ks]
  exact ex_callV (As := []) (rest := rest) hd hL rfl he rfl hAs hrest h1 K' (fun h' r hq hl => by obtain ⟨x, rfl, hp⟩ := hq; exact K h' x hp)
theorem cx_VL0lA {q ci : Nat} {fs : List Value} {P : AH → Int64 → Prop} (hd : decode M.2.1 pc = .ok (.invokevirtual idx, 3)) (hL : VL M.1.cls idx M' 0 ci) (he : h[q]? = some (ob ci fs)) (hE : entL M'.2.2.1 (.ref (g.1 + q) :: []) = als0) (hAs : (lg_sl (.ref (g.1 + q) :: [])).length ≤ M'.2.2.1) (hrest : (rest.map fun v => v.category).sum ≤ 8) (h1 : 1 ≤ d) (K' : Ex g M' (d - 1) kc' ks' 0 als0 [] h (ql P)) (K : ∀ h' x, P h' x → h'.length = h.length + kc' → Ex g M d kc ks (pc + 3) als (.long x :: rest) h' Q) : Ex g M d (kc' + kc) (ks' + ks) pc als (.ref (g.1 + q) :: rest) h Q := by
  subst hE
  exact ex_callV (As := []) (rest := rest) hd hL rfl he rfl hAs hrest h1 K' (fun h' r hq hl => by obtain ⟨x, rfl, hp⟩ := hq; exact K h' x hp hl)
theorem cx_VL0r {q ci : Nat} {fs : List Value} {P : AH → Value → Prop} (hd : decode M.2.1 pc = .ok (.invokevirtual idx, 3)) (hL : VL M.1.cls idx M' 0 ci) (he : h[q]? = some (ob ci fs)) (hE : entL M'.2.2.1 (.ref (g.1 + q) :: []) = als0) (hAs : (lg_sl (.ref (g.1 + q) :: [])).length ≤ M'.2.2.1) (hrest : (rest.map fun v => v.category).sum ≤ 8) (h1 : 1 ≤ d) (K' : Ex g M' (d - 1) 0 0 0 als0 [] h (qr P)) (K : ∀ h' x, P h' x → Ex g M d kc ks (pc + 3) als (x :: rest) h' Q) : Ex g M d kc ks pc als (.ref (g.1 + q) :: rest) h Q := by
  subst hE
  rw [← Nat.zero_add kc, ← Nat.zero_add ks]
  exact ex_callV (As := []) (rest := rest) hd hL rfl he rfl hAs hrest h1 K' (fun h' r hq hl => by obtain ⟨x, rfl, hp⟩ := hq; exact K h' x hp)
theorem cx_VL0rA {q ci : Nat} {fs : List Value} {P : AH → Value → Prop} (hd : decode M.2.1 pc = .ok (.invokevirtual idx, 3)) (hL : VL M.1.cls idx M' 0 ci) (he : h[q]? = some (ob ci fs)) (hE : entL M'.2.2.1 (.ref (g.1 + q) :: []) = als0) (hAs : (lg_sl (.ref (g.1 + q) :: [])).length ≤ M'.2.2.1) (hrest : (rest.map fun v => v.category).sum ≤ 8) (h1 : 1 ≤ d) (K' : Ex g M' (d - 1) kc' ks' 0 als0 [] h (qr P)) (K : ∀ h' x, P h' x → h'.length = h.length + kc' → Ex g M d kc ks (pc + 3) als (x :: rest) h' Q) : Ex g M d (kc' + kc) (ks' + ks) pc als (.ref (g.1 + q) :: rest) h Q := by
  subst hE
  exact ex_callV (As := []) (rest := rest) hd hL rfl he rfl hAs hrest h1 K' (fun h' r hq hl => by obtain ⟨x, rfl, hp⟩ := hq; exact K h' x hp hl)
theorem cx_VL0v {q ci : Nat} {fs : List Value} {P : AH → Prop} (hd : decode M.2.1 pc = .ok (.invokevirtual idx, 3)) (hL : VL M.1.cls idx M' 0 ci) (he : h[q]? = some (ob ci fs)) (hE : entL M'.2.2.1 (.ref (g.1 + q) :: []) = als0) (hAs : (lg_sl (.ref (g.1 + q) :: [])).length ≤ M'.2.2.1) (hrest : (rest.map fun v => v.category).sum ≤ 8) (h1 : 1 ≤ d) (K' : Ex g M' (d - 1) 0 0 0 als0 [] h (qv P)) (K : ∀ h', P h' → Ex g M d kc ks (pc + 3) als (rest) h' Q) : Ex g M d kc ks pc als (.ref (g.1 + q) :: rest) h Q := by
  subst hE
  rw [← Nat.zero_add kc, ← Nat.zero_add ks]
  exact ex_callV (As := []) (rest := rest) hd hL rfl he rfl hAs hrest h1 K' (fun h' r hq hl => by obtain ⟨rfl, hp⟩ := hq; exact K h' hp)
theorem cx_VL0vA {q ci : Nat} {fs : List Value} {P : AH → Prop} (hd : decode M.2.1 pc = .ok (.invokevirtual idx, 3)) (hL : VL M.1.cls idx M' 0 ci) (he : h[q]? = some (ob ci fs)) (hE : entL M'.2.2.1 (.ref (g.1 + q) :: []) = als0) (hAs : (lg_sl (.ref (g.1 + q) :: [])).length ≤ M'.2.2.1) (hrest : (rest.map fun v => v.category).sum ≤ 8) (h1 : 1 ≤ d) (K' : Ex g M' (d - 1) kc' ks' 0 als0 [] h (qv P)) (K : ∀ h', P h' → h'.length = h.length + kc' → Ex g M d kc ks (pc + 3) als (rest) h' Q) : Ex g M d (kc' + kc) (ks' + ks) pc als (.ref (g.1 + q) :: rest) h Q := by
  subst hE
  exact ex_callV (As := []) (rest := rest) hd hL rfl he rfl hAs hrest h1 K' (fun h' r hq hl => by obtain ⟨rfl, hp⟩ := hq; exact K h' hp hl)
theorem cx_VL1i {q ci : Nat} {fs : List Value} {a0 : Value} {P : AH → Int32 → Prop} (hd : decode M.2.1 pc = .ok (.invokevirtual idx, 3)) (hL : VL M.1.cls idx M' 1 ci) (he : h[q]? = some (ob ci fs)) (hE : entL M'.2.2.1 (.ref (g.1 + q) :: [a0]) = als0) (hAs : (lg_sl (.ref (g.1 + q) :: [a0])).length ≤ M'.2.2.1) (hrest : (rest.map fun v => v.category).sum ≤ 8) (h1 : 1 ≤ d) (K' : Ex g M' (d - 1) 0 0 0 als0 [] h (qi P)) (K : ∀ h' x, P h' x → Ex g M d kc ks (pc + 3) als (.int x :: rest) h' Q) : Ex g M d kc ks pc als (a0 :: .ref (g.1 + q) :: rest) h Q := by
  subst hE
  rw [← Nat.zero_add kc, ← Nat.zero_add ks]
  exact ex_callV (As := [a0]) (rest := rest) hd hL rfl he rfl hAs hrest h1 K' (fun h' r hq hl => by obtain ⟨x, rfl, hp⟩ := hq; exact K h' x hp)
theorem cx_VL1iA {q ci : Nat} {fs : List Value} {a0 : Value} {P : AH → Int32 → Prop} (hd : decode M.2.1 pc = .ok (.invokevirtual idx, 3)) (hL : VL M.1.cls idx M' 1 ci) (he : h[q]? = some (ob ci fs)) (hE : entL M'.2.2.1 (.ref (g.1 + q) :: [a0]) = als0) (hAs : (lg_sl (.ref (g.1 + q) :: [a0])).length ≤ M'.2.2.1) (hrest : (rest.map fun v => v.category).sum ≤ 8) (h1 : 1 ≤ d) (K' : Ex g M' (d - 1) kc' ks' 0 als0 [] h (qi P)) (K : ∀ h' x, P h' x → h'.length = h.length + kc' → Ex g M d kc ks (pc + 3) als (.int x :: rest) h' Q) : Ex g M d (kc' + kc) (ks' + ks) pc als (a0 :: .ref (g.1 + q) :: rest) h Q := by
  subst hE
  exact ex_callV (As := [a0]) (rest := rest) hd hL rfl he rfl hAs hrest h1 K' (fun h' r hq hl => by obtain ⟨x, rfl, hp⟩ := hq; exact K h' x hp hl)
theorem cx_VL1l {q ci : Nat} {fs : List Value} {a0 : Value} {P : AH → Int64 → Prop} (hd : decode M.2.1 pc = .ok (.invokevirtual idx, 3)) (hL : VL M.1.cls idx M' 1 ci) (he : h[q]? = some (ob ci fs)) (hE : entL M'.2.2.1 (.ref (g.1 + q) :: [a0]) = als0) (hAs : (lg_sl (.ref (g.1 + q) :: [a0])).length ≤ M'.2.2.1) (hrest : (rest.map fun v => v.category).sum ≤ 8) (h1 : 1 ≤ d) (K' : Ex g M' (d - 1) 0 0 0 als0 [] h (ql P)) (K : ∀ h' x, P h' x → Ex g M d kc ks (pc + 3) als (.long x :: rest) h' Q) : Ex g M d kc ks pc als (a0 :: .ref (g.1 + q) :: rest) h Q := by
  subst hE
  rw [← Nat.zero_add kc, ← Nat.zero_add ks]
  exact ex_callV (As := [a0]) (rest := rest) hd hL rfl he rfl hAs hrest h1 K' (fun h' r hq hl => by obtain ⟨x, rfl, hp⟩ := hq; exact K h' x hp)
theorem cx_VL1lA {q ci : Nat} {fs : List Value} {a0 : Value} {P : AH → Int64 → Prop} (hd : decode M.2.1 pc = .ok (.invokevirtual idx, 3)) (hL : VL M.1.cls idx M' 1 ci) (he : h[q]? = some (ob ci fs)) (hE : entL M'.2.2.1 (.ref (g.1 + q) :: [a0]) = als0) (hAs : (lg_sl (.ref (g.1 + q) :: [a0])).length ≤ M'.2.2.1) (hrest : (rest.map fun v => v.category).sum ≤ 8) (h1 : 1 ≤ d) (K' : Ex g M' (d - 1) kc' ks' 0 als0 [] h (ql P)) (K : ∀ h' x, P h' x → h'.length = h.length + kc' → Ex g M d kc ks (pc + 3) als (.long x :: rest) h' Q) : Ex g M d (kc' + kc) (ks' + ks) pc als (a0 :: .ref (g.1 + q) :: rest) h Q := by
  subst hE
  exact ex_callV (As := [a0]) (rest := rest) hd hL rfl he rfl hAs hrest h1 K' (fun h' r hq hl => by obtain ⟨x, rfl, hp⟩ := hq; exact K h' x hp hl)
theorem cx_VL1r {q ci : Nat} {fs : List Value} {a0 : Value} {P : AH → Value → Prop} (hd : decode M.2.1 pc = .ok (.invokevirtual idx, 3)) (hL : VL M.1.cls idx M' 1 ci) (he : h[q]? = some (ob ci fs)) (hE : entL M'.2.2.1 (.ref (g.1 + q) :: [a0]) = als0) (hAs : (lg_sl (.ref (g.1 + q) :: [a0])).length ≤ M'.2.2.1) (hrest : (rest.map fun v => v.category).sum ≤ 8) (h1 : 1 ≤ d) (K' : Ex g M' (d - 1) 0 0 0 als0 [] h (qr P)) (K : ∀ h' x, P h' x → Ex g M d kc ks (pc + 3) als (x :: rest) h' Q) : Ex g M d kc ks pc als (a0 :: .ref (g.1 + q) :: rest) h Q := by
  subst hE
  rw [← Nat.zero_add kc, ← Nat.zero_add ks]
  exact ex_callV (As := [a0]) (rest := rest) hd hL rfl he rfl hAs hrest h1 K' (fun h' r hq hl => by obtain ⟨x, rfl, hp⟩ := hq; exact K h' x hp)
theorem cx_VL1rA {q ci : Nat} {fs : List Value} {a0 : Value} {P : AH → Value → Prop} (hd : decode M.2.1 pc = .ok (.invokevirtual idx, 3)) (hL : VL M.1.cls idx M' 1 ci) (he : h[q]? = some (ob ci fs)) (hE : entL M'.2.2.1 (.ref (g.1 + q) :: [a0]) = als0) (hAs : (lg_sl (.ref (g.1 + q) :: [a0])).length ≤ M'.2.2.1) (hrest : (rest.map fun v => v.category).sum ≤ 8) (h1 : 1 ≤ d) (K' : Ex g M' (d - 1) kc' ks' 0 als0 [] h (qr P)) (K : ∀ h' x, P h' x → h'.length = h.length + kc' → Ex g M d kc ks (pc + 3) als (x :: rest) h' Q) : Ex g M d (kc' + kc) (ks' + ks) pc als (a0 :: .ref (g.1 + q) :: rest) h Q := by
  subst hE
  exact ex_callV (As := [a0]) (rest := rest) hd hL rfl he rfl hAs hrest h1 K' (fun h' r hq hl => by obtain ⟨x, rfl, hp⟩ := hq; exact K h' x hp hl)
theorem cx_VL1v {q ci : Nat} {fs : List Value} {a0 : Value} {P : AH → Prop} (hd : decode M.2.1 pc = .ok (.invokevirtual idx, 3)) (hL : VL M.1.cls idx M' 1 ci) (he : h[q]? = some (ob ci fs)) (hE : entL M'.2.2.1 (.ref (g.1 + q) :: [a0]) = als0) (hAs : (lg_sl (.ref (g.1 + q) :: [a0])).length ≤ M'.2.2.1) (hrest : (rest.map fun v => v.category).sum ≤ 8) (h1 : 1 ≤ d) (K' : Ex g M' (d - 1) 0 0 0 als0 [] h (qv P)) (K : ∀ h', P h' → Ex g M d kc ks (pc + 3) als (rest) h' Q) : Ex g M d kc ks pc als (a0 :: .ref (g.1 + q) :: rest) h Q := by
  subst hE
  rw [← Nat.zero_add kc, ← Nat.zero_add ks]
  exact ex_callV (As := [a0]) (rest := rest) hd hL rfl he rfl hAs hrest h1 K' (fun h' r hq hl => by obtain ⟨rfl, hp⟩ := hq; exact K h' hp)
theorem cx_VL1vA {q ci : Nat} {fs : List Value} {a0 : Value} {P : AH → Prop} (hd : decode M.2.1 pc = .ok (.invokevirtual idx, 3)) (hL : VL M.1.cls idx M' 1 ci) (he : h[q]? = some (ob ci fs)) (hE : entL M'.2.2.1 (.ref (g.1 + q) :: [a0]) = als0) (hAs : (lg_sl (.ref (g.1 + q) :: [a0])).length ≤ M'.2.2.1) (hrest : (rest.map fun v => v.category).sum ≤ 8) (h1 : 1 ≤ d) (K' : Ex g M' (d - 1) kc' ks' 0 als0 [] h (qv P)) (K : ∀ h', P h' → h'.length = h.length + kc' → Ex g M d kc ks (pc + 3) als (rest) h' Q) : Ex g M d (kc' + kc) (ks' + ks) pc als (a0 :: .ref (g.1 + q) :: rest) h Q := by
  subst hE
  exact ex_callV (As := [a0]) (rest := rest) hd hL rfl he rfl hAs hrest h1 K' (fun h' r hq hl => by obtain ⟨rfl, hp⟩ := hq; exact K h' hp hl)
theorem cx_VL2i {q ci : Nat} {fs : List Value} {a0 a1 : Value} {P : AH → Int32 → Prop} (hd : decode M.2.1 pc = .ok (.invokevirtual idx, 3)) (hL : VL M.1.cls idx M' 2 ci) (he : h[q]? = some (ob ci fs)) (hE : entL M'.2.2.1 (.ref (g.1 + q) :: [a0, a1]) = als0) (hAs : (lg_sl (.ref (g.1 + q) :: [a0, a1])).length ≤ M'.2.2.1) (hrest : (rest.map fun v => v.category).sum ≤ 8) (h1 : 1 ≤ d) (K' : Ex g M' (d - 1) 0 0 0 als0 [] h (qi P)) (K : ∀ h' x, P h' x → Ex g M d kc ks (pc + 3) als (.int x :: rest) h' Q) : Ex g M d kc ks pc als (a1 :: a0 :: .ref (g.1 + q) :: rest) h Q := by
  subst hE
  rw [← Nat.zero_add kc, ← Nat.zero_add ks]
  exact ex_callV (As := [a0, a1]) (rest := rest) hd hL rfl he rfl hAs hrest h1 K' (fun h' r hq hl => by obtain ⟨x, rfl, hp⟩ := hq; exact K h' x hp)
theorem cx_VL2iA {q ci : Nat} {fs : List Value} {a0 a1 : Value} {P : AH → Int32 → Prop} (hd : decode M.2.1 pc = .ok (.invokevirtual idx, 3)) (hL : VL M.1.cls idx M' 2 ci) (he : h[q]? = some (ob ci fs)) (hE : entL M'.2.2.1 (.ref (g.1 + q) :: [a0, a1]) = als0) (hAs : (lg_sl (.ref (g.1 + q) :: [a0, a1])).length ≤ M'.2.2.1) (hrest : (rest.map fun v => v.category).sum ≤ 8) (h1 : 1 ≤ d) (K' : Ex g M' (d - 1) kc' ks' 0 als0 [] h (qi P)) (K : ∀ h' x, P h' x → h'.length = h.length + kc' → Ex g M d kc ks (pc + 3) als (.int x :: rest) h' Q) : Ex g M d (kc' + kc) (ks' + ks) pc als (a1 :: a0 :: .ref (g.1 + q) :: rest) h Q := by
  subst hE
  exact ex_callV (As := [a0, a1]) (rest := rest) hd hL rfl he rfl hAs hrest h1 K' (fun h' r hq hl => by obtain ⟨x, rfl, hp⟩ := hq; exact K h' x hp hl)
theorem cx_VL2v {q ci : Nat} {fs : List Value} {a0 a1 : Value} {P : AH → Prop} (hd : decode M.2.1 pc = .ok (.invokevirtual idx, 3)) (hL : VL M.1.cls idx M' 2 ci) (he : h[q]? = some (ob ci fs)) (hE : entL M'.2.2.1 (.ref (g.1 + q) :: [a0, a1]) = als0) (hAs : (lg_sl (.ref (g.1 + q) :: [a0, a1])).length ≤ M'.2.2.1) (hrest : (rest.map fun v => v.category).sum ≤ 8) (h1 : 1 ≤ d) (K' : Ex g M' (d - 1) 0 0 0 als0 [] h (qv P)) (K : ∀ h', P h' → Ex g M d kc ks (pc + 3) als (rest) h' Q) : Ex g M d kc ks pc als (a1 :: a0 :: .ref (g.1 + q) :: rest) h Q := by
  subst hE
  rw [← Nat.zero_add kc, ← Nat.zero_add ks]
  exact ex_callV (As := [a0, a1]) (rest := rest) hd hL rfl he rfl hAs hrest h1 K' (fun h' r hq hl => by obtain ⟨rfl, hp⟩ := hq; exact K h' hp)
theorem cx_VL2vA {q ci : Nat} {fs : List Value} {a0 a1 : Value} {P : AH → Prop} (hd : decode M.2.1 pc = .ok (.invokevirtual idx, 3)) (hL : VL M.1.cls idx M' 2 ci) (he : h[q]? = some (ob ci fs)) (hE : entL M'.2.2.1 (.ref (g.1 + q) :: [a0, a1]) = als0) (hAs : (lg_sl (.ref (g.1 + q) :: [a0, a1])).length ≤ M'.2.2.1) (hrest : (rest.map fun v => v.category).sum ≤ 8) (h1 : 1 ≤ d) (K' : Ex g M' (d - 1) kc' ks' 0 als0 [] h (qv P)) (K : ∀ h', P h' → h'.length = h.length + kc' → Ex g M d kc ks (pc + 3) als (rest) h' Q) : Ex g M d (kc' + kc) (ks' + ks) pc als (a1 :: a0 :: .ref (g.1 + q) :: rest) h Q := by
  subst hE
  exact ex_callV (As := [a0, a1]) (rest := rest) hd hL rfl he rfl hAs hrest h1 K' (fun h' r hq hl => by obtain ⟨rfl, hp⟩ := hq; exact K h' hp hl)
theorem cx_VL3i {q ci : Nat} {fs : List Value} {a0 a1 a2 : Value} {P : AH → Int32 → Prop} (hd : decode M.2.1 pc = .ok (.invokevirtual idx, 3)) (hL : VL M.1.cls idx M' 3 ci) (he : h[q]? = some (ob ci fs)) (hE : entL M'.2.2.1 (.ref (g.1 + q) :: [a0, a1, a2]) = als0) (hAs : (lg_sl (.ref (g.1 + q) :: [a0, a1, a2])).length ≤ M'.2.2.1) (hrest : (rest.map fun v => v.category).sum ≤ 8) (h1 : 1 ≤ d) (K' : Ex g M' (d - 1) 0 0 0 als0 [] h (qi P)) (K : ∀ h' x, P h' x → Ex g M d kc ks (pc + 3) als (.int x :: rest) h' Q) : Ex g M d kc ks pc als (a2 :: a1 :: a0 :: .ref (g.1 + q) :: rest) h Q := by
  subst hE
  rw [← Nat.zero_add kc, ← Nat.zero_add ks]
  exact ex_callV (As := [a0, a1, a2]) (rest := rest) hd hL rfl he rfl hAs hrest h1 K' (fun h' r hq hl => by obtain ⟨x, rfl, hp⟩ := hq; exact K h' x hp)
theorem cx_VL3iA {q ci : Nat} {fs : List Value} {a0 a1 a2 : Value} {P : AH → Int32 → Prop} (hd : decode M.2.1 pc = .ok (.invokevirtual idx, 3)) (hL : VL M.1.cls idx M' 3 ci) (he : h[q]? = some (ob ci fs)) (hE : entL M'.2.2.1 (.ref (g.1 + q) :: [a0, a1, a2]) = als0) (hAs : (lg_sl (.ref (g.1 + q) :: [a0, a1, a2])).length ≤ M'.2.2.1) (hrest : (rest.map fun v => v.category).sum ≤ 8) (h1 : 1 ≤ d) (K' : Ex g M' (d - 1) kc' ks' 0 als0 [] h (qi P)) (K : ∀ h' x, P h' x → h'.length = h.length + kc' → Ex g M d kc ks (pc + 3) als (.int x :: rest) h' Q) : Ex g M d (kc' + kc) (ks' + ks) pc als (a2 :: a1 :: a0 :: .ref (g.1 + q) :: rest) h Q := by
  subst hE
  exact ex_callV (As := [a0, a1, a2]) (rest := rest) hd hL rfl he rfl hAs hrest h1 K' (fun h' r hq hl => by obtain ⟨x, rfl, hp⟩ := hq; exact K h' x hp hl)
theorem cx_VL3v {q ci : Nat} {fs : List Value} {a0 a1 a2 : Value} {P : AH → Prop} (hd : decode M.2.1 pc = .ok (.invokevirtual idx, 3)) (hL : VL M.1.cls idx M' 3 ci) (he : h[q]? = some (ob ci fs)) (hE : entL M'.2.2.1 (.ref (g.1 + q) :: [a0, a1, a2]) = als0) (hAs : (lg_sl (.ref (g.1 + q) :: [a0, a1, a2])).length ≤ M'.2.2.1) (hrest : (rest.map fun v => v.category).sum ≤ 8) (h1 : 1 ≤ d) (K' : Ex g M' (d - 1) 0 0 0 als0 [] h (qv P)) (K : ∀ h', P h' → Ex g M d kc ks (pc + 3) als (rest) h' Q) : Ex g M d kc ks pc als (a2 :: a1 :: a0 :: .ref (g.1 + q) :: rest) h Q := by
  subst hE
  rw [← Nat.zero_add kc, ← Nat.zero_add ks]
  exact ex_callV (As := [a0, a1, a2]) (rest := rest) hd hL rfl he rfl hAs hrest h1 K' (fun h' r hq hl => by obtain ⟨rfl, hp⟩ := hq; exact K h' hp)
theorem cx_VL3vA {q ci : Nat} {fs : List Value} {a0 a1 a2 : Value} {P : AH → Prop} (hd : decode M.2.1 pc = .ok (.invokevirtual idx, 3)) (hL : VL M.1.cls idx M' 3 ci) (he : h[q]? = some (ob ci fs)) (hE : entL M'.2.2.1 (.ref (g.1 + q) :: [a0, a1, a2]) = als0) (hAs : (lg_sl (.ref (g.1 + q) :: [a0, a1, a2])).length ≤ M'.2.2.1) (hrest : (rest.map fun v => v.category).sum ≤ 8) (h1 : 1 ≤ d) (K' : Ex g M' (d - 1) kc' ks' 0 als0 [] h (qv P)) (K : ∀ h', P h' → h'.length = h.length + kc' → Ex g M d kc ks (pc + 3) als (rest) h' Q) : Ex g M d (kc' + kc) (ks' + ks) pc als (a2 :: a1 :: a0 :: .ref (g.1 + q) :: rest) h Q := by
  subst hE
  exact ex_callV (As := [a0, a1, a2]) (rest := rest) hd hL rfl he rfl hAs hrest h1 K' (fun h' r hq hl => by obtain ⟨rfl, hp⟩ := hq; exact K h' hp hl)
theorem cx_VL4i {q ci : Nat} {fs : List Value} {a0 a1 a2 a3 : Value} {P : AH → Int32 → Prop} (hd : decode M.2.1 pc = .ok (.invokevirtual idx, 3)) (hL : VL M.1.cls idx M' 4 ci) (he : h[q]? = some (ob ci fs)) (hE : entL M'.2.2.1 (.ref (g.1 + q) :: [a0, a1, a2, a3]) = als0) (hAs : (lg_sl (.ref (g.1 + q) :: [a0, a1, a2, a3])).length ≤ M'.2.2.1) (hrest : (rest.map fun v => v.category).sum ≤ 8) (h1 : 1 ≤ d) (K' : Ex g M' (d - 1) 0 0 0 als0 [] h (qi P)) (K : ∀ h' x, P h' x → Ex g M d kc ks (pc + 3) als (.int x :: rest) h' Q) : Ex g M d kc ks pc als (a3 :: a2 :: a1 :: a0 :: .ref (g.1 + q) :: rest) h Q := by
  subst hE
  rw [← Nat.zero_add kc, ← Nat.zero_add ks]
  exact ex_callV (As := [a0, a1, a2, a3]) (rest := rest) hd hL rfl he rfl hAs hrest h1 K' (fun h' r hq hl => by obtain ⟨x, rfl, hp⟩ := hq; exact K h' x hp)
theorem cx_VL4iA {q ci : Nat} {fs : List Value} {a0 a1 a2 a3 : Value} {P : AH → Int32 → Prop} (hd : decode M.2.1 pc = .ok (.invokevirtual idx, 3)) (hL : VL M.1.cls idx M' 4 ci) (he : h[q]? = some (ob ci fs)) (hE : entL M'.2.2.1 (.ref (g.1 + q) :: [a0, a1, a2, a3]) = als0) (hAs : (lg_sl (.ref (g.1 + q) :: [a0, a1, a2, a3])).length ≤ M'.2.2.1) (hrest : (rest.map fun v => v.category).sum ≤ 8) (h1 : 1 ≤ d) (K' : Ex g M' (d - 1) kc' ks' 0 als0 [] h (qi P)) (K : ∀ h' x, P h' x → h'.length = h.length + kc' → Ex g M d kc ks (pc + 3) als (.int x :: rest) h' Q) : Ex g M d (kc' + kc) (ks' + ks) pc als (a3 :: a2 :: a1 :: a0 :: .ref (g.1 + q) :: rest) h Q := by
  subst hE
  exact ex_callV (As := [a0, a1, a2, a3]) (rest := rest) hd hL rfl he rfl hAs hrest h1 K' (fun h' r hq hl => by obtain ⟨x, rfl, hp⟩ := hq; exact K h' x hp hl)
theorem cx_VL4l {q ci : Nat} {fs : List Value} {a0 a1 a2 a3 : Value} {P : AH → Int64 → Prop} (hd : decode M.2.1 pc = .ok (.invokevirtual idx, 3)) (hL : VL M.1.cls idx M' 4 ci) (he : h[q]? = some (ob ci fs)) (hE : entL M'.2.2.1 (.ref (g.1 + q) :: [a0, a1, a2, a3]) = als0) (hAs : (lg_sl (.ref (g.1 + q) :: [a0, a1, a2, a3])).length ≤ M'.2.2.1) (hrest : (rest.map fun v => v.category).sum ≤ 8) (h1 : 1 ≤ d) (K' : Ex g M' (d - 1) 0 0 0 als0 [] h (ql P)) (K : ∀ h' x, P h' x → Ex g M d kc ks (pc + 3) als (.long x :: rest) h' Q) : Ex g M d kc ks pc als (a3 :: a2 :: a1 :: a0 :: .ref (g.1 + q) :: rest) h Q := by
  subst hE
  rw [← Nat.zero_add kc, ← Nat.zero_add ks]
  exact ex_callV (As := [a0, a1, a2, a3]) (rest := rest) hd hL rfl he rfl hAs hrest h1 K' (fun h' r hq hl => by obtain ⟨x, rfl, hp⟩ := hq; exact K h' x hp)
theorem cx_VL4lA {q ci : Nat} {fs : List Value} {a0 a1 a2 a3 : Value} {P : AH → Int64 → Prop} (hd : decode M.2.1 pc = .ok (.invokevirtual idx, 3)) (hL : VL M.1.cls idx M' 4 ci) (he : h[q]? = some (ob ci fs)) (hE : entL M'.2.2.1 (.ref (g.1 + q) :: [a0, a1, a2, a3]) = als0) (hAs : (lg_sl (.ref (g.1 + q) :: [a0, a1, a2, a3])).length ≤ M'.2.2.1) (hrest : (rest.map fun v => v.category).sum ≤ 8) (h1 : 1 ≤ d) (K' : Ex g M' (d - 1) kc' ks' 0 als0 [] h (ql P)) (K : ∀ h' x, P h' x → h'.length = h.length + kc' → Ex g M d kc ks (pc + 3) als (.long x :: rest) h' Q) : Ex g M d (kc' + kc) (ks' + ks) pc als (a3 :: a2 :: a1 :: a0 :: .ref (g.1 + q) :: rest) h Q := by
  subst hE
  exact ex_callV (As := [a0, a1, a2, a3]) (rest := rest) hd hL rfl he rfl hAs hrest h1 K' (fun h' r hq hl => by obtain ⟨x, rfl, hp⟩ := hq; exact K h' x hp hl)
theorem cx_VL4v {q ci : Nat} {fs : List Value} {a0 a1 a2 a3 : Value} {P : AH → Prop} (hd : decode M.2.1 pc = .ok (.invokevirtual idx, 3)) (hL : VL M.1.cls idx M' 4 ci) (he : h[q]? = some (ob ci fs)) (hE : entL M'.2.2.1 (.ref (g.1 + q) :: [a0, a1, a2, a3]) = als0) (hAs : (lg_sl (.ref (g.1 + q) :: [a0, a1, a2, a3])).length ≤ M'.2.2.1) (hrest : (rest.map fun v => v.category).sum ≤ 8) (h1 : 1 ≤ d) (K' : Ex g M' (d - 1) 0 0 0 als0 [] h (qv P)) (K : ∀ h', P h' → Ex g M d kc ks (pc + 3) als (rest) h' Q) : Ex g M d kc ks pc als (a3 :: a2 :: a1 :: a0 :: .ref (g.1 + q) :: rest) h Q := by
  subst hE
  rw [← Nat.zero_add kc, ← Nat.zero_add ks]
  exact ex_callV (As := [a0, a1, a2, a3]) (rest := rest) hd hL rfl he rfl hAs hrest h1 K' (fun h' r hq hl => by obtain ⟨rfl, hp⟩ := hq; exact K h' hp)
theorem cx_VL4vA {q ci : Nat} {fs : List Value} {a0 a1 a2 a3 : Value} {P : AH → Prop} (hd : decode M.2.1 pc = .ok (.invokevirtual idx, 3)) (hL : VL M.1.cls idx M' 4 ci) (he : h[q]? = some (ob ci fs)) (hE : entL M'.2.2.1 (.ref (g.1 + q) :: [a0, a1, a2, a3]) = als0) (hAs : (lg_sl (.ref (g.1 + q) :: [a0, a1, a2, a3])).length ≤ M'.2.2.1) (hrest : (rest.map fun v => v.category).sum ≤ 8) (h1 : 1 ≤ d) (K' : Ex g M' (d - 1) kc' ks' 0 als0 [] h (qv P)) (K : ∀ h', P h' → h'.length = h.length + kc' → Ex g M d kc ks (pc + 3) als (rest) h' Q) : Ex g M d (kc' + kc) (ks' + ks) pc als (a3 :: a2 :: a1 :: a0 :: .ref (g.1 + q) :: rest) h Q := by
  subst hE
  exact ex_callV (As := [a0, a1, a2, a3]) (rest := rest) hd hL rfl he rfl hAs hrest h1 K' (fun h' r hq hl => by obtain ⟨rfl, hp⟩ := hq; exact K h' hp hl)
theorem cx_VL5i {q ci : Nat} {fs : List Value} {a0 a1 a2 a3 a4 : Value} {P : AH → Int32 → Prop} (hd : decode M.2.1 pc = .ok (.invokevirtual idx, 3)) (hL : VL M.1.cls idx M' 5 ci) (he : h[q]? = some (ob ci fs)) (hE : entL M'.2.2.1 (.ref (g.1 + q) :: [a0, a1, a2, a3, a4]) = als0) (hAs : (lg_sl (.ref (g.1 + q) :: [a0, a1, a2, a3, a4])).length ≤ M'.2.2.1) (hrest : (rest.map fun v => v.category).sum ≤ 8) (h1 : 1 ≤ d) (K' : Ex g M' (d - 1) 0 0 0 als0 [] h (qi P)) (K : ∀ h' x, P h' x → Ex g M d kc ks (pc + 3) als (.int x :: rest) h' Q) : Ex g M d kc ks pc als (a4 :: a3 :: a2 :: a1 :: a0 :: .ref (g.1 + q) :: rest) h Q := by
  subst hE
  rw [← Nat.zero_add kc, ← Nat.zero_add ks]
  exact ex_callV (As := [a0, a1, a2, a3, a4]) (rest := rest) hd hL rfl he rfl hAs hrest h1 K' (fun h' r hq hl => by obtain ⟨x, rfl, hp⟩ := hq; exact K h' x hp)
theorem cx_VL5iA {q ci : Nat} {fs : List Value} {a0 a1 a2 a3 a4 : Value} {P : AH → Int32 → Prop} (hd : decode M.2.1 pc = .ok (.invokevirtual idx, 3)) (hL : VL M.1.cls idx M' 5 ci) (he : h[q]? = some (ob ci fs)) (hE : entL M'.2.2.1 (.ref (g.1 + q) :: [a0, a1, a2, a3, a4]) = als0) (hAs : (lg_sl (.ref (g.1 + q) :: [a0, a1, a2, a3, a4])).length ≤ M'.2.2.1) (hrest : (rest.map fun v => v.category).sum ≤ 8) (h1 : 1 ≤ d) (K' : Ex g M' (d - 1) kc' ks' 0 als0 [] h (qi P)) (K : ∀ h' x, P h' x → h'.length = h.length + kc' → Ex g M d kc ks (pc + 3) als (.int x :: rest) h' Q) : Ex g M d (kc' + kc) (ks' + ks) pc als (a4 :: a3 :: a2 :: a1 :: a0 :: .ref (g.1 + q) :: rest) h Q := by
  subst hE
  exact ex_callV (As := [a0, a1, a2, a3, a4]) (rest := rest) hd hL rfl he rfl hAs hrest h1 K' (fun h' r hq hl => by obtain ⟨x, rfl, hp⟩ := hq; exact K h' x hp hl)
theorem cx_VL6i {q ci : Nat} {fs : List Value} {a0 a1 a2 a3 a4 a5 : Value} {P : AH → Int32 → Prop} (hd : decode M.2.1 pc = .ok (.invokevirtual idx, 3)) (hL : VL M.1.cls idx M' 6 ci) (he : h[q]? = some (ob ci fs)) (hE : entL M'.2.2.1 (.ref (g.1 + q) :: [a0, a1, a2, a3, a4, a5]) = als0) (hAs : (lg_sl (.ref (g.1 + q) :: [a0, a1, a2, a3, a4, a5])).length ≤ M'.2.2.1) (hrest : (rest.map fun v => v.category).sum ≤ 8) (h1 : 1 ≤ d) (K' : Ex g M' (d - 1) 0 0 0 als0 [] h (qi P)) (K : ∀ h' x, P h' x → Ex g M d kc ks (pc + 3) als (.int x :: rest) h' Q) : Ex g M d kc ks pc als (a5 :: a4 :: a3 :: a2 :: a1 :: a0 :: .ref (g.1 + q) :: rest) h Q := by
  subst hE
  rw [← Nat.zero_add kc, ← Nat.zero_add ks]
  exact ex_callV (As := [a0, a1, a2, a3, a4, a5]) (rest := rest) hd hL rfl he rfl hAs hrest h1 K' (fun h' r hq hl => by obtain ⟨x, rfl, hp⟩ := hq; exact K h' x hp)
theorem cx_VL6iA {q ci : Nat} {fs : List Value} {a0 a1 a2 a3 a4 a5 : Value} {P : AH → Int32 → Prop} (hd : decode M.2.1 pc = .ok (.invokevirtual idx, 3)) (hL : VL M.1.cls idx M' 6 ci) (he : h[q]? = some (ob ci fs)) (hE : entL M'.2.2.1 (.ref (g.1 + q) :: [a0, a1, a2, a3, a4, a5]) = als0) (hAs : (lg_sl (.ref (g.1 + q) :: [a0, a1, a2, a3, a4, a5])).length ≤ M'.2.2.1) (hrest : (rest.map fun v => v.category).sum ≤ 8) (h1 : 1 ≤ d) (K' : Ex g M' (d - 1) kc' ks' 0 als0 [] h (qi P)) (K : ∀ h' x, P h' x → h'.length = h.length + kc' → Ex g M d kc ks (pc + 3) als (.int x :: rest) h' Q) : Ex g M d (kc' + kc) (ks' + ks) pc als (a5 :: a4 :: a3 :: a2 :: a1 :: a0 :: .ref (g.1 + q) :: rest) h Q := by
  subst hE
  exact ex_callV (As := [a0, a1, a2, a3, a4, a5]) (rest := rest) hd hL rfl he rfl hAs hrest h1 K' (fun h' r hq hl => by obtain ⟨x, rfl, hp⟩ := hq; exact K h' x hp hl)
theorem cx_VS0i {i : Nat} {P : AH → Int32 → Prop} (hd : decode M.2.1 pc = .ok (.invokevirtual idx, 3)) (hL : VS M.1.cls idx M' 0) (hi : i < 6) (hE : entL M'.2.2.1 (.ref (gK g (1 + i)) :: []) = als0) (hAs : (lg_sl (.ref (gK g (1 + i)) :: [])).length ≤ M'.2.2.1) (hrest : (rest.map fun v => v.category).sum ≤ 8) (h1 : 1 ≤ d) (K' : Ex g M' (d - 1) 0 0 0 als0 [] h (qi P)) (K : ∀ h' x, P h' x → Ex g M d kc ks (pc + 3) als (.int x :: rest) h' Q) : Ex g M d kc ks pc als (.ref (gK g (1 + i)) :: rest) h Q := by
  subst hE
  rw [← Nat.zero_add kc, ← Nat.zero_add ks]
  exact ex_callVS (As := []) (rest := rest) hd hL hi rfl rfl hAs hrest h1 K' (fun h' r hq hl => by obtain ⟨x, rfl, hp⟩ := hq; exact K h' x hp)
theorem cx_VS0iA {i : Nat} {P : AH → Int32 → Prop} (hd : decode M.2.1 pc = .ok (.invokevirtual idx, 3)) (hL : VS M.1.cls idx M' 0) (hi : i < 6) (hE : entL M'.2.2.1 (.ref (gK g (1 + i)) :: []) = als0) (hAs : (lg_sl (.ref (gK g (1 + i)) :: [])).length ≤ M'.2.2.1) (hrest : (rest.map fun v => v.category).sum ≤ 8) (h1 : 1 ≤ d) (K' : Ex g M' (d - 1) kc' ks' 0 als0 [] h (qi P)) (K : ∀ h' x, P h' x → h'.length = h.length + kc' → Ex g M d kc ks (pc + 3) als (.int x :: rest) h' Q) : Ex g M d (kc' + kc) (ks' + ks) pc als (.ref (gK g (1 + i)) :: rest) h Q := by
  subst hE
  exact ex_callVS (As := []) (rest := rest) hd hL hi rfl rfl hAs hrest h1 K' (fun h' r hq hl => by obtain ⟨x, rfl, hp⟩ := hq; exact K h' x hp hl)
theorem cx_VS1i {i : Nat} {a0 : Value} {P : AH → Int32 → Prop} (hd : decode M.2.1 pc = .ok (.invokevirtual idx, 3)) (hL : VS M.1.cls idx M' 1) (hi : i < 6) (hE : entL M'.2.2.1 (.ref (gK g (1 + i)) :: [a0]) = als0) (hAs : (lg_sl (.ref (gK g (1 + i)) :: [a0])).length ≤ M'.2.2.1) (hrest : (rest.map fun v => v.category).sum ≤ 8) (h1 : 1 ≤ d) (K' : Ex g M' (d - 1) 0 0 0 als0 [] h (qi P)) (K : ∀ h' x, P h' x → Ex g M d kc ks (pc + 3) als (.int x :: rest) h' Q) : Ex g M d kc ks pc als (a0 :: .ref (gK g (1 + i)) :: rest) h Q := by
  subst hE
  rw [← Nat.zero_add kc, ← Nat.zero_add ks]
  exact ex_callVS (As := [a0]) (rest := rest) hd hL hi rfl rfl hAs hrest h1 K' (fun h' r hq hl => by obtain ⟨x, rfl, hp⟩ := hq; exact K h' x hp)
theorem cx_VS1iA {i : Nat} {a0 : Value} {P : AH → Int32 → Prop} (hd : decode M.2.1 pc = .ok (.invokevirtual idx, 3)) (hL : VS M.1.cls idx M' 1) (hi : i < 6) (hE : entL M'.2.2.1 (.ref (gK g (1 + i)) :: [a0]) = als0) (hAs : (lg_sl (.ref (gK g (1 + i)) :: [a0])).length ≤ M'.2.2.1) (hrest : (rest.map fun v => v.category).sum ≤ 8) (h1 : 1 ≤ d) (K' : Ex g M' (d - 1) kc' ks' 0 als0 [] h (qi P)) (K : ∀ h' x, P h' x → h'.length = h.length + kc' → Ex g M d kc ks (pc + 3) als (.int x :: rest) h' Q) : Ex g M d (kc' + kc) (ks' + ks) pc als (a0 :: .ref (gK g (1 + i)) :: rest) h Q := by
  subst hE
  exact ex_callVS (As := [a0]) (rest := rest) hd hL hi rfl rfl hAs hrest h1 K' (fun h' r hq hl => by obtain ⟨x, rfl, hp⟩ := hq; exact K h' x hp hl)
theorem cx_VS2i {i : Nat} {a0 a1 : Value} {P : AH → Int32 → Prop} (hd : decode M.2.1 pc = .ok (.invokevirtual idx, 3)) (hL : VS M.1.cls idx M' 2) (hi : i < 6) (hE : entL M'.2.2.1 (.ref (gK g (1 + i)) :: [a0, a1]) = als0) (hAs : (lg_sl (.ref (gK g (1 + i)) :: [a0, a1])).length ≤ M'.2.2.1) (hrest : (rest.map fun v => v.category).sum ≤ 8) (h1 : 1 ≤ d) (K' : Ex g M' (d - 1) 0 0 0 als0 [] h (qi P)) (K : ∀ h' x, P h' x → Ex g M d kc ks (pc + 3) als (.int x :: rest) h' Q) : Ex g M d kc ks pc als (a1 :: a0 :: .ref (gK g (1 + i)) :: rest) h Q := by
  subst hE
  rw [← Nat.zero_add kc, ← Nat.zero_add ks]
  exact ex_callVS (As := [a0, a1]) (rest := rest) hd hL hi rfl rfl hAs hrest h1 K' (fun h' r hq hl => by obtain ⟨x, rfl, hp⟩ := hq; exact K h' x hp)
theorem cx_VS2iA {i : Nat} {a0 a1 : Value} {P : AH → Int32 → Prop} (hd : decode M.2.1 pc = .ok (.invokevirtual idx, 3)) (hL : VS M.1.cls idx M' 2) (hi : i < 6) (hE : entL M'.2.2.1 (.ref (gK g (1 + i)) :: [a0, a1]) = als0) (hAs : (lg_sl (.ref (gK g (1 + i)) :: [a0, a1])).length ≤ M'.2.2.1) (hrest : (rest.map fun v => v.category).sum ≤ 8) (h1 : 1 ≤ d) (K' : Ex g M' (d - 1) kc' ks' 0 als0 [] h (qi P)) (K : ∀ h' x, P h' x → h'.length = h.length + kc' → Ex g M d kc ks (pc + 3) als (.int x :: rest) h' Q) : Ex g M d (kc' + kc) (ks' + ks) pc als (a1 :: a0 :: .ref (gK g (1 + i)) :: rest) h Q := by
  subst hE
  exact ex_callVS (As := [a0, a1]) (rest := rest) hd hL hi rfl rfl hAs hrest h1 K' (fun h' r hq hl => by obtain ⟨x, rfl, hp⟩ := hq; exact K h' x hp hl)
theorem ex_ildn {q n k : Nat} {f : Nat → Int32} {i : Int32} (hd : decode M.2.1 pc = .ok (.iaload, 1)) (he : h[q]? = some (ia g n f)) (hi : i = nI k) (hk : k < n) (hn : n < 2147483648) (K : Ex g M d kc ks (pc + 1) als (.int (f k) :: st) h Q) : Ex g M d kc ks pc als (.int i :: .ref (g.1 + q) :: st) h Q := by
  subst hi
  refine ex_iald hd he (vp_in_nI hk hn) ?_
  rw [nI_clamp (by omega)]
  exact K
theorem ex_lldn {q n k : Nat} {f : Nat → Int64} {i : Int32} (hd : decode M.2.1 pc = .ok (.laload, 1)) (he : h[q]? = some (la g n f)) (hi : i = nI k) (hk : k < n) (hn : n < 2147483648) (K : Ex g M d kc ks (pc + 1) als (.long (f k) :: st) h Q) : Ex g M d kc ks pc als (.int i :: .ref (g.1 + q) :: st) h Q := by
  subst hi
  refine ex_lald hd he (vp_in_nI hk hn) ?_
  rw [nI_clamp (by omega)]
  exact K
theorem ex_aldn {q t n k : Nat} {f : Nat → Option Nat} {i : Int32} {v : Value} {C : String} (hd : decode M.2.1 pc = .ok (.aaload, 1)) (ht : (gT g)[t]? = some (gC g t, .object C)) (he : h[q]? = some (ra g t n f)) (hi : i = nI k) (hk : k < n) (hn : n < 2147483648) (hv : va_rf (f k) = v) (K : Ex g M d kc ks (pc + 1) als (v :: st) h Q) : Ex g M d kc ks pc als (.int i :: .ref (g.1 + q) :: st) h Q := by
  subst hi
  refine ex_aald hd ht he (vp_in_nI hk hn) ?_ K
  rw [nI_clamp (by omega)]
  exact hv
theorem ex_istn {q n k : Nat} {f : Nat → Int32} {i x : Int32} (hd : decode M.2.1 pc = .ok (.iastore, 1)) (he : h[q]? = some (ia g n f)) (hi : i = nI k) (hk : k < n) (hn : n < 2147483648) (K : Ex g M d kc ks (pc + 1) als st (h.set q (ia g n (upd f k x))) Q) : Ex g M d kc ks pc als (.int x :: .int i :: .ref (g.1 + q) :: st) h Q := by
  subst hi
  refine ex_iast hd he (vp_in_nI hk hn) ?_
  rw [nI_clamp (by omega)]
  exact K
theorem ex_lstn {q n k : Nat} {f : Nat → Int64} {i : Int32} {x : Int64} (hd : decode M.2.1 pc = .ok (.lastore, 1)) (he : h[q]? = some (la g n f)) (hi : i = nI k) (hk : k < n) (hn : n < 2147483648) (K : Ex g M d kc ks (pc + 1) als st (h.set q (la g n (vp_updL f k x))) Q) : Ex g M d kc ks pc als (.long x :: .int i :: .ref (g.1 + q) :: st) h Q := by
  subst hi
  refine ex_last hd he (vp_in_nI hk hn) ?_
  rw [nI_clamp (by omega)]
  exact K
theorem ex_astn {q t n k qv ci : Nat} {f : Nat → Option Nat} {i : Int32} {vs : List Value} {r : vw_C} (hd : decode M.2.1 pc = .ok (.aastore, 1)) (ht : (gT g)[t]? = some (gC g t, .object r.1)) (hr : vwCl[ci]? = some r) (he : h[q]? = some (ra g t n f)) (hv : h[qv]? = some (ob ci vs)) (hi : i = nI k) (hk : k < n) (hn : n < 2147483648) (K : Ex g M d kc ks (pc + 1) als st (h.set q (ra g t n (va_up f k (some (g.1 + qv))))) Q) : Ex g M d kc ks pc als (.ref (g.1 + qv) :: .int i :: .ref (g.1 + q) :: st) h Q := by
  subst hi
  refine ex_aast hd ht hr he hv (vp_in_nI hk hn) ?_
  rw [nI_clamp (by omega)]
  exact K
end SX

/-! constants: the table of kinds, literals, the script; arraycopy -/
section CONSTS
variable {g : Gl} {M : Mt} {d kc ks pc idx : Nat} {als : List (Option Value)} {st : List Value} {h : AH} {Q : AH → Option Value → Prop}
theorem ex_above (hd : decode M.2.1 pc = .ok (.getstatic 32, 3)) (hM : M.1.cls = "RoomWatch$Post") (K : Ex g M d kc ks (pc + 3) als (.ref (gK g 0) :: st) h Q) : Ex g M d kc ks pc als st h Q :=
  Ex.stepC (fun _ _ _ _ _ _ _ _ _ _ _ _ _ _ _ _ hC hS _ _ _ _ _ _ kk => va_getsN (ref := "RoomWatch") (own := "RoomWatch$Post") hC.1 hC.2.1 hC.2.2.2.2.2.2.2.1.1.1 hS (by rw [← hM]; exact hC.2.2.2.2.1) (va_Nw.use rfl hC.2.2.2.2.2.2.2.1.2.1.2.2.2.1) (fun _ hx => hx) hd kk) K
theorem ex_aboveLd {i : Int32} (hd : decode M.2.1 pc = .ok (.iaload, 1)) (hin : vp_in i 6) (K : Ex g M d kc ks (pc + 1) als (.int (fAbove i.toNatClampNeg) :: st) h Q) : Ex g M d kc ks pc als (.int i :: .ref (gK g 0) :: st) h Q :=
  Ex.stepC (fun _ _ _ _ _ _ _ _ _ _ _ _ _ _ _ _ hC hS _ _ _ _ _ _ kk => va_ti hC.1 hC.2.1 hC.2.2.2.2.2.2.2.1.1.2.1 hS hin rfl hd kk) K
theorem ex_ldcS {i : Nat} (hd : decode M.2.1 pc = .ok (.ldc (strIdx.getD i 0), 2)) (hi : i < 6) (hM : M.1.cls = "RoomWatch$Reader") (K : Ex g M d kc ks (pc + 2) als (.ref (gK g (1 + i)) :: st) h Q) : Ex g M d kc ks pc als st h Q :=
  Ex.stepC (fun _ _ _ _ _ _ _ _ _ _ _ _ _ _ _ _ hC hS _ _ _ _ _ _ kk => va_ldcS hC.1 hC.2.1 (by rw [← hM]; exact hC.2.2.2.2.1) (hC.2.2.2.2.2.2.2.1.2.1.2.1 i hi) hd kk) K
theorem ex_sld {i : Int32} (hd : decode M.2.1 pc = .ok (.iaload, 1)) (hin : vp_in i g.2.2.2.2.2.1) (K : Ex g M d kc ks (pc + 1) als (.int (g.2.2.2.2.2.2 i.toNatClampNeg) :: st) h Q) : Ex g M d kc ks pc als (.int i :: .ref g.2.2.2.2.1 :: st) h Q :=
  Ex.stepC (fun _ _ _ _ _ _ _ _ _ _ _ _ _ _ _ _ hC hS _ _ _ _ _ _ kk => va_sld hC.1 hC.2.1 hC.2.2.2.2.2.2.2.1.1.2.2.2.2 (Nat.lt_of_lt_of_le hC.2.2.2.2.2.2.2.1.2.2.1 hC.2.2.2.2.2.2.2.1.2.2.2) (Nat.not_le.mpr hC.2.2.2.2.2.2.2.1.2.2.1) hS hin hd kk) K
theorem ex_slen (hd : decode M.2.1 pc = .ok (.arraylength, 1)) (K : Ex g M d kc ks (pc + 1) als (.int (nI g.2.2.2.2.2.1) :: st) h Q) : Ex g M d kc ks pc als (.ref g.2.2.2.2.1 :: st) h Q :=
  Ex.stepC (fun _ _ _ _ _ _ _ _ _ _ _ _ _ _ _ _ hC hS _ _ _ _ _ _ kk => va_slen hC.1 hC.2.1 hC.2.2.2.2.2.2.2.1.1.2.2.2.2 (Nat.lt_of_lt_of_le hC.2.2.2.2.2.2.2.1.2.2.1 hC.2.2.2.2.2.2.2.1.2.2.2) (Nat.not_le.mpr hC.2.2.2.2.2.2.2.1.2.2.1) hS hd kk) K
/-- a literal's fields, and its bytes -/
theorem ex_strValue {i : Nat} (hd : decode M.2.1 pc = .ok (.getfield idx, 3)) (hi : i < 6) (hw : Gw (.fieldLink M.1.cls idx "java/lang/String" "value" "[B")) (K : Ex g M d kc ks (pc + 3) als (.ref (gK g (10 + i)) :: st) h Q) : Ex g M d kc ks pc als (.ref (gK g (1 + i)) :: st) h Q :=
  Ex.stepC (fun _ _ _ _ _ _ _ _ _ _ _ _ _ _ _ _ hC hS _ _ _ _ _ _ kk => vk_getf (ref := "java/lang/String") hC.1 hC.2.1 (hC.2.2.2.2.2.2.2.1.1.2.2.1.1 i hi).2.2.1 hS hC.2.2.2.2.1 (hC.2.2.2.2.2.1 _ hw) (fun _ hx => hx) hd kk) K
theorem ex_strCoder {i : Nat} (hd : decode M.2.1 pc = .ok (.getfield idx, 3)) (hi : i < 6) (hw : Gw (.fieldLink M.1.cls idx "java/lang/String" "coder" "B")) (K : Ex g M d kc ks (pc + 3) als (.int 0 :: st) h Q) : Ex g M d kc ks pc als (.ref (gK g (1 + i)) :: st) h Q :=
  Ex.stepC (fun _ _ _ _ _ _ _ _ _ _ _ _ _ _ _ _ hC hS _ _ _ _ _ _ kk => vk_getf (ref := "java/lang/String") hC.1 hC.2.1 (hC.2.2.2.2.2.2.2.1.1.2.2.1.1 i hi).2.1 hS hC.2.2.2.2.1 (hC.2.2.2.2.2.1 _ hw) (fun _ hx => hx) hd kk) K
theorem ex_compact (hd : decode M.2.1 pc = .ok (.getstatic idx, 3)) (hw : Gw (.fieldLink M.1.cls idx "java/lang/String" "COMPACT_STRINGS" "Z")) (K : Ex g M d kc ks (pc + 3) als (.int 1 :: st) h Q) : Ex g M d kc ks pc als st h Q :=
  Ex.stepC (fun _ _ _ _ _ _ _ _ _ _ _ _ _ _ _ _ hC hS _ _ _ _ _ _ kk => va_gets (ref := "java/lang/String") hC.1 hC.2.1 hC.2.2.2.2.2.2.2.1.1.2.2.2.1.1 hS hC.2.2.2.2.1 (hC.2.2.2.2.2.1 _ hw) (fun _ hx => hx) hd kk) K
theorem ex_siof (hd : decode M.2.1 pc = .ok (.getstatic idx, 3)) (hw : Gw (.fieldLink M.1.cls idx "jdk/internal/util/Preconditions" "SIOOBE_FORMATTER" "Ljava/util/function/BiFunction;")) (K : ∀ v : Value, (v = .null ∨ ∃ t : Nat, v = .ref t) → Ex g M d kc ks (pc + 3) als (v :: st) h Q) : Ex g M d kc ks pc als st h Q := by
  intro p l e R s m args below meth c hC hd1 hd2 H locs cells slots ls Z hS hR hT hc hs hl k
  rcases hC.2.2.2.2.2.2.2.1.1.2.2.2.1.2 with q | ⟨t, q⟩
  · exact va_gets (ref := "jdk/internal/util/Preconditions") hC.1 hC.2.1 q hS hC.2.2.2.2.1 (hC.2.2.2.2.2.1 _ hw) (fun _ hx => hx) hd (K .null (Or.inl rfl) p l e R s m args below meth c hC hd1 hd2 H locs cells slots ls Z hS hR hT hc hs hl k)
  · exact va_gets (ref := "jdk/internal/util/Preconditions") hC.1 hC.2.1 q hS hC.2.2.2.2.1 (hC.2.2.2.2.2.1 _ hw) (fun _ hx => hx) hd (K (.ref t) (Or.inr ⟨t, rfl⟩) p l e R s m args below meth c hC hd1 hd2 H locs cells slots ls Z hS hR hT hc hs hl k)
theorem ex_strBald {i : Nat} {j : Int32} (hd : decode M.2.1 pc = .ok (.baload, 1)) (hi : i < 6) (hin : vp_in j (strLen.getD i 0)) (K : Ex g M d kc ks (pc + 1) als (.int ((strByt.getD i []).getD j.toNatClampNeg 0) :: st) h Q) : Ex g M d kc ks pc als (.int j :: .ref (gK g (10 + i)) :: st) h Q :=
  Ex.stepC (fun _ _ _ _ _ _ _ _ _ _ _ _ _ _ _ _ hC hS _ _ _ _ _ _ kk => va_tb hC.1 hC.2.1 (hC.2.2.2.2.2.2.2.1.1.2.2.1.1 i hi).2.2.2 hS hin rfl hd kk) K
theorem ex_strBlen {i : Nat} (hd : decode M.2.1 pc = .ok (.arraylength, 1)) (hi : i < 6) (K : Ex g M d kc ks (pc + 1) als (.int (nI (strLen.getD i 0)) :: st) h Q) : Ex g M d kc ks pc als (.ref (gK g (10 + i)) :: st) h Q :=
  Ex.stepC (fun _ _ _ _ _ _ _ _ _ _ _ _ _ _ _ _ hC hS _ _ _ _ _ _ kk => va_tlen hC.1 hC.2.1 (hC.2.2.2.2.2.2.2.1.1.2.2.1.1 i hi).2.2.2 hS rfl hd kk) K
/-- a call of a literal's method -/
def VS (own : String) (idx : Nat) (M : Mt) (n : Nat) : Prop := Gw (.methodLink own idx M.1) ∧ Gw (.instanceMethod M.1) ∧ Gw (.selects M.1.cls M.1 M.1) ∧ GM M n ∧ M.1.cls = "java/lang/String"
theorem ex_callVS {M' : Mt} {n i kc' ks' : Nat} {As rest : List Value} {Q' : AH → Option Value → Prop} (hd : decode M.2.1 pc = .ok (.invokevirtual idx, 3)) (hL : VS M.1.cls idx M' n) (hi : i < 6) (hst : st = As.reverse ++ .ref (gK g (1 + i)) :: rest) (hn : As.length = n) (hAs : (lg_sl (.ref (gK g (1 + i)) :: As)).length ≤ M'.2.2.1) (hrest : (rest.map fun v => v.category).sum ≤ 8) (h1 : 1 ≤ d)
    (K' : Ex g M' (d - 1) kc' ks' 0 (entL M'.2.2.1 (.ref (gK g (1 + i)) :: As)) [] h Q') (K : ∀ h' r, Q' h' r → h'.length = h.length + kc' → Ex g M d kc ks (pc + 3) als (r.toList ++ rest) h' Q) : Ex g M d (kc' + kc) (ks' + ks) pc als st h Q := by
  obtain ⟨hL1, hL2, hL3, hL4, hL5⟩ := hL
  refine Ex.ofRun h1 hAs hL4 K' ?_ K
  intro p l e R s m args below meth c H locs cells slots ls hC hd1 hd2 hS hR hsz hf hM
  have hp := Pw.pre (As := .ref (gK g (1 + i)) :: As) hC.2.2.2.2.2.2.2.1 hS hR
  have hrc := vk_recv hC.2.2.2.2.2.2.2.1.1.2.2.1 hi hS
  rw [← hL5] at hrc
  exact ⟨_, va_runV (As := As) (rest := rest) hC.fix hM ⟨hC.callB hL4 h1 hd1 hd2 hL1, hC.2.2.2.2.2.1 _ hL2, hC.2.2.2.2.2.1 _ hL3⟩ ⟨hp.1, hrc, hp.2⟩ rfl hn hsz hst (lv_room hrest) hd hf⟩
theorem ex_copy {q0 q1 n0 n1 : Nat} {f0 f1 : Nat → Int32} {sp dp n : Int32} (hd : decode M.2.1 pc = .ok (.invokestatic idx, 3)) (hw1 : Gw (.methodLink M.1.cls idx arraycopyName)) (hw2 : Gw (.native arraycopyName)) (hw3 : Gw (.static arraycopyName)) (hw4 : Gw (.initialized "java/lang/System")) (he0 : h[q0]? = some (ia g n0 f0)) (he1 : h[q1]? = some (ia g n1 f1))
    (h1 : ¬ sp < 0) (h2 : ¬ dp < 0) (h3 : ¬ n < 0) (h4 : sp.toNatClampNeg + n.toNatClampNeg ≤ n0) (h5 : dp.toNatClampNeg + n.toNatClampNeg ≤ n1) (hr : (st.map fun v => v.category).sum ≤ 8) (hdd : 1 ≤ d) (hnf : nativeFrameWords "java/lang/System" "arraycopy" 5 ≤ 20)
    (K : Ex g M d kc ks (pc + 3) als st (h.set q1 (ia g n1 (va_cpy f0 f1 sp.toNatClampNeg dp.toNatClampNeg n.toNatClampNeg))) Q) : Ex g M d kc ks pc als (.int n :: .int dp :: .ref (g.1 + q1) :: .int sp :: .ref (g.1 + q0) :: st) h Q := by
  intro p l e R s m args below meth c hC hd1 hd2 H locs cells slots ls Z hS hR hT hcc hs hll kk
  have hw := hC.2.2.2.2.2.1
  refine va_copyi hC.1 hC.2.1 (by rw [hC.2.2.1, hll.1]) hC.2.2.2.2.1 (hw _ hw1) (hw _ hw2) (hw _ hw3) (hw _ hw4) hC.2.2.2.2.2.2.2.1.2.1.1 hR.1 (wsF_D g.1 h) hS q0 q1 0 0 (wsF_at he0) (wsF_at he1) rfl rfl rfl h1 h2 h3 h4 h5 (fun _ _ => rfl) (by omega) (by omega) hd (fun H1 locs1 hP1 _ hS1 => W.sz (fun hz => ?_))
  exact K p l e R s m args below meth c hC hd1 hd2 H1 locs1 cells slots ls Z hS1 (Rp.setR he1 hT hP1 hz) (by rw [List.length_set]; exact hT) hcc hs hll kk
theorem nf_ok : nativeFrameWords "java/lang/System" "arraycopy" 5 ≤ 20 := by decide +kernel
end CONSTS

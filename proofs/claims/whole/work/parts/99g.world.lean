/-! from the law's entry; the world at its start -/
set_option maxHeartbeats 4000000 in
set_option maxRecDepth 100000 in
theorem law_all {g : Gl} {d : Nat} (hN : sN g ≤ 3072) (hd : 80 ≤ d) : ∃ kc ks, kc ≤ 3000 ∧ ks ≤ 200000 ∧ Ex g mL_law d kc ks 0 [some (.ref (sB g)), none, none, none] [] [] (fun _ r => r = some (.int 1)) := by
  obtain ⟨kc, ks, b1, b2, F⟩ := law_loop (g := g) (d := d) (Q := fun _ r => r = some (.int 1)) hN hd (fun _ => rfl) 512 0 0 0 0 (fun _ => 0) 0 0 (by omega) (by omega) (fun _ => ⟨0, by omega, rfl⟩) (by omega) (Or.inl rfl)
  refine ⟨1 + (74 + (1 + (19 + kc))), 12 + (883 + (32 + (10080 + ks))), by omega, by omega, ?_⟩
  show Ex _ _ _ _ _ _ _ _ (([] : AH) ++ []) _
  refine px_new (kc := 74 + (1 + (19 + kc))) (ks := 883 + (32 + (10080 + ks))) (b := 0) (k := 0) (t' := [ob 6 [.null, .null, .int 0, .null, .null, .null, .null, .null, .null, .null, .null, .int 0]]) (pc := 0) rfl dL_law_0 nw_L_7 rfl rfl rfl rfl ?_
  refine ex_dup (pc := 3) dL_law_3 rfl ?_
  refine px_IL (kc := 1 + (19 + kc)) (ks := 32 + (10080 + ks)) (kc' := 74) (ks' := 883) (b := 0) (k := 0) (ti := []) (r := inWatchN g 0) (t' := inWatchN g 0) (pc := 4) rfl dL_law_4 lk_L_9 rfl (Nat.le_of_ble_eq_true rfl) (Nat.le_of_ble_eq_true rfl) (by omega) rfl rfl rfl rfl (fun hp2 e2 => c_inWatch (b := 0) e2 (by omega)) rfl ?_
  refine sx_astore_n (pc := 7) dL_law_7 rfl (by decide) ?_
  show Ex _ _ _ _ _ _ [_, _, _, _] _ (inWatchN g 0) _
  rw [← List.append_nil (inWatchN g 0)]
  refine px_new (kc := 19 + kc) (ks := 10080 + ks) (b := 75) (k := 0) (t' := [ob 7 [.null, .null, .null, .int 0, .null, .null, .null, .null, .null, .null, .null, .null, .null, .null, .null, .int 0, .int 0, .int 0, .int 0, .int 0, .int 0, .int 0, .int 0, .int 0, .int 0, .int 0, .null, .null, .null, .null, .int 0, .null]]) (pc := 8) rfl dL_law_8 nw_L_10 rfl rfl rfl rfl ?_
  refine ex_dup (pc := 11) dL_law_11 rfl ?_
  refine px_IL (kc := kc) (ks := ks) (kc' := 19) (ks' := 10080) (b := 75) (k := 0) (ti := []) (r := inModelN g 75) (t' := inModelN g 75) (pc := 12) rfl dL_law_12 lk_L_12 rfl (Nat.le_of_ble_eq_true rfl) (Nat.le_of_ble_eq_true rfl) (by omega) rfl rfl rfl rfl (fun hp2 e2 => c_inModel (b := 75) e2 (by omega)) rfl ?_
  refine sx_astore_n (pc := 15) dL_law_15 rfl (by decide) ?_
  show Ex _ _ _ _ _ _ [_, _, _, _] _ _ _
  refine ex_iconst (pc := 16) (v := (nI 0)) dL_law_16 (by decide) ?_
  refine sx_istore_n (pc := 17) dL_law_17 rfl (by decide) ?_
  show Ex _ _ _ _ _ _ [some (.ref (sB g)), some (.ref (g.1 + 0)), some (.ref (g.1 + 75)), some (.int (nI 0))] _ (h00 g) _
  exact F _ (iv00 g)
theorem mw {w : Cond} (i : Nat) (h : lw_tbl[i]? = some w) : w ∈ lw_tbl := List.mem_of_getElem? h
def FLC : List Cond := flatC (Jvm.Cond.and given_1 narrow_1)
def tmS (i : Nat) : Term := .string "RoomWatch$Reader" (strIdx.getD i 0)
abbrev tmA : Term := .static "RoomWatch" "ABOVE" "[I"
theorem fl_ex : ∀ i, i < 6 → Cond.exactly (tmS i) "java/lang/String" ∈ FLC := by decide +kernel
theorem fl_co : ∀ i, i < 6 → Cond.eq (.field (tmS i) "java/lang/String" "coder" "B") (.int 0) ∈ FLC := by decide +kernel
theorem fl_ar : ∀ i, i < 6 → Cond.arrayOf (.field (tmS i) "java/lang/String" "value" "[B") .byte ∈ FLC := by decide +kernel
theorem fl_le : ∀ i, i < 6 → Cond.eq (.length (.field (tmS i) "java/lang/String" "value" "[B")) (.int (Int32.ofNat (strLen.getD i 0))) ∈ FLC := by decide +kernel
theorem fl_el : ∀ i, i < 6 → ∀ j, j < strLen.getD i 0 → Cond.eq (.elem (.field (tmS i) "java/lang/String" "value" "[B") (.int (Int32.ofNat j))) (.int ((strByt.getD i []).getD j 0)) ∈ FLC := by decide +kernel
theorem fl_ne : ∀ i, i < 6 → ∀ j, j < 6 → i ≠ j → Cond.not (Cond.eq (tmS i) (tmS j)) ∈ FLC ∨ Cond.not (Cond.eq (tmS j) (tmS i)) ∈ FLC := by decide +kernel
theorem fl_ab : ∀ j, j < 6 → Cond.eq (.elem tmA (.int (Int32.ofNat j))) (.int (fAbove j)) ∈ FLC := by decide +kernel
theorem fl_a1 : Cond.arrayOf tmA .int ∈ FLC := by decide +kernel
theorem fl_a2 : Cond.eq (.length tmA) (.int 6) ∈ FLC := by decide +kernel
theorem fl_c1 : Cond.eq (.static "java/lang/String" "COMPACT_STRINGS" "Z") (.int 1) ∈ FLC := by decide +kernel
theorem fl_c2 : Cond.isRef (.static "jdk/internal/util/Preconditions" "SIOOBE_FORMATTER" "Ljava/util/function/BiFunction;") ∈ FLC := by decide +kernel
theorem vkS_c {N : Nat} {len : List Nat} {byt : List (List Int32)} {adK adV aK aV : Nat → Nat} {A : Nat → Prop} {U : State} {H : Heap} (h : vk_S N len byt adK adV A U H) (e1 : ∀ i, i < N → aK i = adK i) (e2 : ∀ i, i < N → aV i = adV i) : vk_S N len byt aK aV A U H := by
  refine ⟨fun i hi => ?_, fun i j hi hj q => h.2 i j hi hj ?_⟩
  · rw [e1 i hi, e2 i hi]; exact h.1 i hi
  · rw [e1 i hi, e1 j hj] at q; exact q
theorem strR : ∀ i, i < 6 → Cond.stringRef "RoomWatch$Reader" (strIdx.getD i 0) (strTx.getD i "") ∈ lw_tbl := by
  intro i hi
  rcases (show i = 0 ∨ i = 1 ∨ i = 2 ∨ i = 3 ∨ i = 4 ∨ i = 5 by omega) with rfl | rfl | rfl | rfl | rfl | rfl
  · exact mw 702 (by decide +kernel)
  · exact mw 755 (by decide +kernel)
  · exact mw 756 (by decide +kernel)
  · exact mw 777 (by decide +kernel)
  · exact mw 778 (by decide +kernel)
  · exact mw 779 (by decide +kernel)
theorem nestW : ∀ q ∈ nestT, Cond.methodLinkNest q.1 q.2.1 q.2.2.1 q.2.2.2 ∈ lw_tbl := by
  exact List.forall_mem_cons.mpr ⟨mw 98 (by decide +kernel), List.forall_mem_cons.mpr ⟨mw 177 (by decide +kernel), List.forall_mem_cons.mpr ⟨mw 180 (by decide +kernel), List.forall_mem_cons.mpr ⟨mw 231 (by decide +kernel), List.forall_mem_cons.mpr ⟨mw 249 (by decide +kernel), List.forall_mem_cons.mpr ⟨mw 254 (by decide +kernel), List.forall_mem_cons.mpr ⟨mw 256 (by decide +kernel), List.forall_mem_cons.mpr ⟨mw 365 (by decide +kernel), List.forall_mem_cons.mpr ⟨mw 373 (by decide +kernel), List.forall_mem_cons.mpr ⟨mw 419 (by decide +kernel), List.forall_mem_cons.mpr ⟨mw 440 (by decide +kernel), List.forall_mem_cons.mpr ⟨mw 652 (by decide +kernel), List.forall_mem_cons.mpr ⟨mw 697 (by decide +kernel), fun _ h => absurd h List.not_mem_nil⟩⟩⟩⟩⟩⟩⟩⟩⟩⟩⟩⟩⟩
set_option maxHeartbeats 4000000 in
set_option maxRecDepth 100000 in
theorem world {s : State} {b L : Nat} {xs : Nat → Int32} (hts : ∀ w ∈ lw_tbl, w.before #[Value.ref b] s = true) (hX : va_X b L xs s s.heap) (hbl : b < s.heap.size) (hgv : (Jvm.Cond.and given_1 narrow_1).before #[Value.ref b] s = true) : ∃ g : Gl, CF g s s.heap ∧ g.1 = s.heap.size ∧ sB g = b ∧ sN g = L := by
  have hs : ∀ c ∈ FLC, c.before #[Value.ref b] s = true := flat_of_before _ hgv
  obtain ⟨c0, iS0, hKn0⟩ := u_known (C := RX0) (T := TX0) (N := 4) (n := 4) hts (fun w hw => (cd_0.2.1 w hw).1) (hts (.instantiable RX0 4) (mw 97 (by decide +kernel)))
  obtain ⟨c1, iS1, hKn1⟩ := u_known (C := RX1) (T := TX1) (N := 13) (n := 13) hts (fun w hw => (cd_1.2.1 w hw).1) (hts (.instantiable RX1 13) (mw 179 (by decide +kernel)))
  obtain ⟨c2, iS2, hKn2⟩ := u_known (C := RX2) (T := TX2) (N := 13) (n := 13) hts (fun w hw => (cd_2.2.1 w hw).1) (hts (.instantiable RX2 13) (mw 88 (by decide +kernel)))
  obtain ⟨c3, iS3, hKn3⟩ := u_known (C := RX3) (T := TX3) (N := 3) (n := 3) hts (fun w hw => (cd_3.2.1 w hw).1) (hts (.instantiable RX3 3) (mw 230 (by decide +kernel)))
  obtain ⟨c4, iS4, hKn4⟩ := u_known (C := RX4) (T := TX4) (N := 4) (n := 4) hts (fun w hw => (cd_4.2.1 w hw).1) (hts (.instantiable RX4 4) (mw 248 (by decide +kernel)))
  obtain ⟨c5, iS5, hKn5⟩ := u_known (C := RX5) (T := TX5) (N := 4) (n := 4) hts (fun w hw => (cd_5.2.1 w hw).1) (hts (.instantiable RX5 4) (mw 870 (by decide +kernel)))
  obtain ⟨c6, iS6, hKn6⟩ := u_known (C := RX6) (T := TX6) (N := 12) (n := 12) hts (fun w hw => (cd_6.2.1 w hw).1) (hts (.instantiable RX6 12) (mw 80 (by decide +kernel)))
  obtain ⟨c7, iS7, hKn7⟩ := u_known (C := RX7) (T := TX7) (N := 32) (n := 32) hts (fun w hw => (cd_7.2.1 w hw).1) (hts (.instantiable RX7 32) (mw 983 (by decide +kernel)))
  obtain ⟨dC, dI, hKc⟩ : ∃ (dC : Nat → ClassId) (dI : Nat → Nat → Nat), ∀ (k : Nat) (q : vw_C), vwCl[k]? = some q → u_Kn s q.1 q.2.1 q.2.2 (dC k) (dI k) := by
    refine ⟨fun k => if k = 0 then c0 else if k = 1 then c1 else if k = 2 then c2 else if k = 3 then c3 else if k = 4 then c4 else if k = 5 then c5 else if k = 6 then c6 else c7, fun k => if k = 0 then iS0 else if k = 1 then iS1 else if k = 2 then iS2 else if k = 3 then iS3 else if k = 4 then iS4 else if k = 5 then iS5 else if k = 6 then iS6 else iS7, ?_⟩
    intro k q hq
    match k, hq with
    | 0, hq => cases hq; exact hKn0
    | 1, hq => cases hq; exact hKn1
    | 2, hq => cases hq; exact hKn2
    | 3, hq => cases hq; exact hKn3
    | 4, hq => cases hq; exact hKn4
    | 5, hq => cases hq; exact hKn5
    | 6, hq => cases hq; exact hKn6
    | 7, hq => cases hq; exact hKn7
    | k + 8, hq => simp [vwCl] at hq
  obtain ⟨cA0, kA0, comp0, f01, f02, f03⟩ := Cond.arrayClass_spec (hts (.arrayClass .int) (mw 122 (by decide +kernel)))
  obtain ⟨cA1, kA1, comp1, f11, f12, f13⟩ := Cond.arrayClass_spec (hts (.arrayClass .long) (mw 225 (by decide +kernel)))
  have hAO2 : va_AO RX0 s := va_AO.of (hts (.arrayOver (.object RX0)) (mw 94 (by decide +kernel)))
  have hAO3 : va_AO RX5 s := va_AO.of (hts (.arrayOver (.object RX5)) (mw 96 (by decide +kernel)))
  have hAO4 : va_AO RX3 s := va_AO.of (hts (.arrayOver (.object RX3)) (mw 227 (by decide +kernel)))
  have hAO5 : va_AO RX4 s := va_AO.of (hts (.arrayOver (.object RX4)) (mw 229 (by decide +kernel)))
  obtain ⟨comp2, cA2, kA2, f21, f22, f23, f24, f25⟩ := Cond.arrayOver_spec (hAO2 : (Cond.arrayOver (.object RX0)).before #[] s = true)
  obtain ⟨comp3, cA3, kA3, f31, f32, f33, f34, f35⟩ := Cond.arrayOver_spec (hAO3 : (Cond.arrayOver (.object RX5)).before #[] s = true)
  obtain ⟨comp4, cA4, kA4, f41, f42, f43, f44, f45⟩ := Cond.arrayOver_spec (hAO4 : (Cond.arrayOver (.object RX3)).before #[] s = true)
  obtain ⟨comp5, cA5, kA5, f51, f52, f53, f54, f55⟩ := Cond.arrayOver_spec (hAO5 : (Cond.arrayOver (.object RX4)).before #[] s = true)
  have hA : ∀ a : Nat, a < s.heap.size → ¬ (fun q : Nat => s.heap.size ≤ q) a := fun a h => Nat.not_le.mpr h
  obtain ⟨t, ht, hT⟩ := va_Tof (tm := tmA) (ty := .int) (N := 6) (f := fun j => .int (fAbove j)) (A := fun q : Nat => s.heap.size ≤ q) (by decide) (hs _ fl_a1) (va_eqt (hs _ fl_a2)) (fun j hj => va_eqt (hs _ (fl_ab j hj))) hA
  obtain ⟨adK, adV, hS, hSt⟩ := vk_Sof (N := 6) (tm := tmS) (len := strLen) (byt := strByt) (A := fun q : Nat => s.heap.size ≤ q) (by decide) (fun i hi => hs _ (fl_ex i hi)) (fun i hi => hs _ (fl_co i hi)) (fun i hi => hs _ (fl_ar i hi)) (fun i hi => hs _ (fl_le i hi)) (fun i hi j hj => hs _ (fl_el i hi j hj)) (fun i j hi hj q => (fl_ne i hi j hj q).imp (hs _) (hs _)) hA
  have k1 : ∀ i, i < 6 → (if 1 + i = 0 then t else if 1 + i < 10 then adK (1 + i - 1) else adV (1 + i - 10)) = adK i := fun i hi => by rw [if_neg (by omega), if_pos (by omega), Nat.add_sub_cancel_left]
  have k2 : ∀ i, i < 6 → (if 10 + i = 0 then t else if 10 + i < 10 then adK (10 + i - 1) else adV (10 + i - 10)) = adV i := fun i hi => by rw [if_neg (by omega), if_neg (by omega), Nat.add_sub_cancel_left]
  refine ⟨(s.heap.size, (dC, dI), (fun k => if k = 0 then cA0 else if k = 1 then cA1 else if k = 2 then cA2 else if k = 3 then cA3 else if k = 4 then cA4 else cA5), (fun k => if k = 0 then t else if k < 10 then adK (k - 1) else adV (k - 10)), b, L, xs), ⟨⟨?_, ?_, ?_, ⟨?_, ?_⟩, ?_⟩, ⟨⟨hKc, ?_⟩, ?_, ?_, ?_, ?_⟩, hbl, Nat.le_refl _⟩, rfl, rfl, rfl⟩
  · exact va_Zref (hts (.laysStatic "RoomWatch" "ABOVE" "[I") (mw 442 (by decide +kernel))) (hts (.initialized "RoomWatch") (mw 62 (by decide +kernel))) ht hA
  · exact hT
  · exact vkS_c hS k1 k2
  · exact va_Zof (hts (.laysStatic "java/lang/String" "COMPACT_STRINGS" "Z") (mw 716 (by decide +kernel))) (hts (.initialized "java/lang/String") (mw 73 (by decide +kernel))) (va_eqt (hs _ fl_c1)) hA
  · exact va_Zqof (hts (.laysStatic "jdk/internal/util/Preconditions" "SIOOBE_FORMATTER" "Ljava/util/function/BiFunction;") (mw 732 (by decide +kernel))) (hts (.initialized "jdk/internal/util/Preconditions") (mw 75 (by decide +kernel))) (hs _ fl_c2) hA
  · exact hX
  · intro k q hk
    match k, hk with
    | 0, hk => cases hk; exact ⟨fun n z => ⟨fun k h => (by cases h), kA0, f02, comp0, f03⟩, f01⟩
    | 1, hk => cases hk; exact ⟨fun n z => ⟨fun k h => (by cases h), kA1, f12, comp1, f13⟩, f11⟩
    | 2, hk => cases hk; exact ⟨fun n z => ⟨fun k h => (by cases h), kA2, f23, comp2, f24⟩, kA2, comp2, f23, f24, f21, f25⟩
    | 3, hk => cases hk; exact ⟨fun n z => ⟨fun k h => (by cases h), kA3, f33, comp3, f34⟩, kA3, comp3, f33, f34, f31, f35⟩
    | 4, hk => cases hk; exact ⟨fun n z => ⟨fun k h => (by cases h), kA4, f43, comp4, f44⟩, kA4, comp4, f43, f44, f41, f45⟩
    | 5, hk => cases hk; exact ⟨fun n z => ⟨fun k h => (by cases h), kA5, f53, comp5, f54⟩, kA5, comp5, f53, f54, f51, f55⟩
    | k + 6, hk => simp [gT] at hk
  · intro i hi
    have e := hSt i hi
    rw [← k1 i hi] at e
    exact vk_R.of (hts _ (strR i hi)) e
  · exact fun q hq => va_Nw.of rfl (hts _ (nestW q hq))
  · exact va_Nw.of rfl (hts (.fieldLinkNest "RoomWatch$Post" 32 "RoomWatch" "ABOVE" "[I" "RoomWatch") (mw 441 (by decide +kernel)))
  · exact ⟨hAO2, hAO3, hAO4, hAO5⟩

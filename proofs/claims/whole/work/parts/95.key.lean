/-! the class's reader: the key -/
def chI (i k : Nat) : Int32 := (strByt.getD i []).getD k 0
theorem ch_k : ∀ i, i < 6 → ∀ k, k < 5 → ((chI i k &&& nI 255).toUInt32 % 65536).toInt32 = chI i k := by decide +kernel
theorem ch_n0 : ∀ i, i < 6 → ∀ k, k < 5 → narrow .char (.int (chI i k)) = .int (chI i k) := by
  intro i hi k hk
  rcases (show i = 0 ∨ i = 1 ∨ i = 2 ∨ i = 3 ∨ i = 4 ∨ i = 5 by omega) with rfl | rfl | rfl | rfl | rfl | rfl <;> rcases (show k = 0 ∨ k = 1 ∨ k = 2 ∨ k = 3 ∨ k = 4 by omega) with rfl | rfl | rfl | rfl | rfl <;> rfl
theorem ln_5 : ∀ i, i < 6 → strLen.getD i 0 ≤ 5 ∧ 1 ≤ strLen.getD i 0 := by decide
set_option maxHeartbeats 4000000 in
set_option maxRecDepth 100000 in
theorem c_S_ck3 {g : Gl} {d ks : Nat} {h : AH} {k n : Nat} (hk : k < n) (hn : n < 2147483648) (l2 : Option Value) : Ex g mJ3_checkIndex_8e157 d 0 ks 0 [some (.int (nI k)), some (.int (nI n)), l2] [] h (qi (fun h' x => h' = h ∧ x = nI k)) := by
  refine ex_iload_n (pc := 0) dJ3_checkIndex_8e157_0 rfl ?_
  refine bx_if_lt_f (pc := 1) (tgt := 9) dJ3_checkIndex_8e157_1 (by decide) (Int32.not_lt.mpr (nI_pos' (by omega))) ?_
  refine ex_iload_n (pc := 4) dJ3_checkIndex_8e157_4 rfl ?_
  refine ex_iload_n (pc := 5) dJ3_checkIndex_8e157_5 rfl ?_
  refine bx_icmp_lt_t (pc := 6) (tgt := 16) dJ3_checkIndex_8e157_6 (by decide) (nI_lt hk hn) ?_
  refine ex_iload_n (pc := 16) dJ3_checkIndex_8e157_16 rfl ?_
  refine ex_ret dJ3_checkIndex_8e157_17 rfl ?_
  exact qi_mk ⟨rfl, rfl⟩
set_option maxHeartbeats 4000000 in
set_option maxRecDepth 100000 in
theorem c_S_ck {g : Gl} {d ks : Nat} {h : AH} {k n : Nat} (hk : k < n) (hn : n < 2147483648) (hd : 1 ≤ d) : Ex g mJ0_checkIndex_df160 d 0 ks 0 [some (.int (nI k)), some (.int (nI n))] [] h (qv (fun h' => h' = h)) := by
  refine ex_iload_n (pc := 0) dJ0_checkIndex_df160_0 rfl ?_
  refine ex_iload_n (pc := 1) dJ0_checkIndex_df160_1 rfl ?_
  refine ex_siof (pc := 2) dJ0_checkIndex_df160_2 fl_J0_1053 (fun v hv => ?_)
  rcases hv with rfl | ⟨t, rfl⟩
  · skip
    refine cx_SL3i (pc := 5) dJ0_checkIndex_df160_5 lk_J0_1059 rfl (Nat.le_of_ble_eq_true rfl) (Nat.le_of_ble_eq_true rfl) (by omega) (c_S_ck3 hk hn (some .null)) (fun h_5 x_5 q_5 => ?_)
    obtain ⟨e_5, f_5⟩ := q_5
    rw [e_5, f_5]
    refine ex_pop (pc := 8) dJ0_checkIndex_df160_8 rfl ?_
    refine ex_vret dJ0_checkIndex_df160_9 rfl ?_
    exact qv_mk rfl
  · skip
    refine cx_SL3i (pc := 5) dJ0_checkIndex_df160_5 lk_J0_1059 rfl (Nat.le_of_ble_eq_true rfl) (Nat.le_of_ble_eq_true rfl) (by omega) (c_S_ck3 hk hn (some (.ref t))) (fun h_5 x_5 q_5 => ?_)
    obtain ⟨e_5, f_5⟩ := q_5
    rw [e_5, f_5]
    refine ex_pop (pc := 8) dJ0_checkIndex_df160_8 rfl ?_
    refine ex_vret dJ0_checkIndex_df160_9 rfl ?_
    exact qv_mk rfl
set_option maxHeartbeats 4000000 in
set_option maxRecDepth 100000 in
theorem c_S_chb {g : Gl} {d ks : Nat} {h : AH} {i k : Nat} (hi : i < 6) (hk : k < strLen.getD i 0) (hd : 2 ≤ d) : Ex g mJ1_charAt_3b067 d 0 ks 0 [some (.ref (gK g (10 + i))), some (.int (nI k))] [] h (qi (fun h' x => h' = h ∧ x = chI i k)) := by
  have h5 := ln_5 i hi
  refine ex_iload_n (pc := 0) dJ1_charAt_3b067_0 rfl ?_
  refine ex_aload_n (pc := 1) dJ1_charAt_3b067_1 rfl ?_
  refine ex_strBlen (pc := 2) dJ1_charAt_3b067_2 hi ?_
  refine cx_SL2v (pc := 3) dJ1_charAt_3b067_3 lk_J1_9 rfl (Nat.le_of_ble_eq_true rfl) (Nat.le_of_ble_eq_true rfl) (by omega) (c_S_ck hk (by omega) (by omega)) (fun h_3 q_3 => ?_)
  rw [q_3]
  refine ex_aload_n (pc := 6) dJ1_charAt_3b067_6 rfl ?_
  refine ex_iload_n (pc := 7) dJ1_charAt_3b067_7 rfl ?_
  refine ex_strBald (pc := 8) dJ1_charAt_3b067_8 hi (vp_in_nI hk (by omega)) ?_
  rw [iK (by omega)]
  show Ex _ _ _ _ _ _ _ (.int (chI i k) :: _) _ _
  refine ex_sipush (pc := 9) (v := (nI 255)) dJ1_charAt_3b067_9 (by decide) ?_
  refine ex_iand (pc := 12) dJ1_charAt_3b067_12 ?_
  refine ex_i2c (pc := 13) dJ1_charAt_3b067_13 ?_
  rw [ch_k i hi k (by omega)]
  refine ex_iret dJ1_charAt_3b067_14 rfl (ch_n0 i hi k (by omega)) ?_
  exact qi_mk ⟨rfl, rfl⟩
set_option maxHeartbeats 4000000 in
set_option maxRecDepth 100000 in
theorem c_S_ch {g : Gl} {d ks : Nat} {h : AH} {i k : Nat} (hi : i < 6) (hk : k < strLen.getD i 0) (hd : 3 ≤ d) : Ex g mJ0_charAt_5068e d 0 ks 0 [some (.ref (gK g (1 + i))), some (.int (nI k))] [] h (qi (fun h' x => h' = h ∧ x = chI i k)) := by
  have h5 := ln_5 i hi
  refine ex_aload_n (pc := 0) dJ0_charAt_5068e_0 rfl ?_
  refine cx_VS0i (pc := 1) dJ0_charAt_5068e_1 lk_J0_492 hi rfl (Nat.le_of_ble_eq_true rfl) (Nat.le_of_ble_eq_true rfl) (by omega) (c_S_lat hi) (fun h_1 x_1 q_1 => ?_)
  obtain ⟨e_1, f_1⟩ := q_1
  rw [e_1, f_1]
  refine bx_if_eq_f (pc := 4) (tgt := 16) dJ0_charAt_5068e_4 (by decide) (by decide) ?_
  refine ex_aload_n (pc := 7) dJ0_charAt_5068e_7 rfl ?_
  refine ex_strValue (pc := 8) dJ0_charAt_5068e_8 hi fl_J0_9 ?_
  refine ex_iload_n (pc := 11) dJ0_charAt_5068e_11 rfl ?_
  refine cx_SL2i (pc := 12) dJ0_charAt_5068e_12 lk_J0_495 rfl (Nat.le_of_ble_eq_true rfl) (Nat.le_of_ble_eq_true rfl) (by omega) (c_S_chb hi hk (by omega)) (fun h_12 x_12 q_12 => ?_)
  obtain ⟨e_12, f_12⟩ := q_12
  rw [e_12, f_12]
  refine ex_iret dJ0_charAt_5068e_15 rfl (ch_n0 i hi k (by omega)) ?_
  exact qi_mk ⟨rfl, rfl⟩
def isW (tb : Nat → Nat) (b e i : Nat) : Prop := e = b + strLen.getD i 0 ∧ ∀ k, k < strLen.getD i 0 → nI (tb (b + k)) = chI i k
set_option maxHeartbeats 4000000 in
set_option maxRecDepth 100000 in
theorem c_R_isWord_l {g : Gl} {d ks : Nat} {h : AH} {r tf : Nat → Int32} {tb : Nat → Nat} {tl b e i : Nat} (hT : RdT g h r tf tl) (hB : TpOk tf tb) (h11 : r 11 = nI b) (h12 : r 12 = nI e) (hbe : b < e) (het : e ≤ tl) (hi : i < 6) (hd : 4 ≤ d) (he : e = b + strLen.getD i 0) : ∀ (m k : Nat), k + m = strLen.getD i 0 → (∀ j, j < k → nI (tb (b + j)) = chI i j) → Ex g mX1_isWord d 0 ks 20 [some (.ref (g.1 + 40)), some (.ref (gK g (1 + i))), some (.int (nI k))] [] h (qi (fun h' x => h' = h ∧ (isW tb b e i → x = 1) ∧ (¬ isW tb b e i → x = 0))) := by
  have htl := hT.2.2.2
  have h5 := ln_5 i hi
  intro m
  induction m with
  | zero =>
    intro k hm hw
    refine ex_iload_n (pc := 20) dX1_isWord_20 rfl ?_
    refine ex_aload_n (pc := 21) dX1_isWord_21 rfl ?_
    refine cx_VS0i (pc := 22) dX1_isWord_22 lk_X1_103 hi rfl (Nat.le_of_ble_eq_true rfl) (Nat.le_of_ble_eq_true rfl) (by omega) (c_S_len hi (by omega)) (fun h_22 x_22 q_22 => ?_)
    obtain ⟨e_22, f_22⟩ := q_22
    rw [e_22, f_22]
    refine bx_icmp_ge_t (pc := 25) (tgt := 68) dX1_isWord_25 (by decide) (nI_le (by omega) (by omega)) ?_
    refine ex_iconst (pc := 68) (v := 1) dX1_isWord_68 (by decide) ?_
    refine ex_zret dX1_isWord_69 rfl (by first | exact Or.inl rfl | exact Or.inr rfl | exact bI_01 _) ?_
    exact qi_mk ⟨rfl, fun _ => rfl, fun q => absurd ⟨he, fun j hj => hw j (by omega)⟩ q⟩
  | succ m ih =>
    intro k hm hw
    by_cases hc : nI (tb (b + k)) = chI i k
    · skip
      refine ex_iload_n (pc := 20) dX1_isWord_20 rfl ?_
      refine ex_aload_n (pc := 21) dX1_isWord_21 rfl ?_
      refine cx_VS0i (pc := 22) dX1_isWord_22 lk_X1_103 hi rfl (Nat.le_of_ble_eq_true rfl) (Nat.le_of_ble_eq_true rfl) (by omega) (c_S_len hi (by omega)) (fun h_22 x_22 q_22 => ?_)
      obtain ⟨e_22, f_22⟩ := q_22
      rw [e_22, f_22]
      refine bx_icmp_ge_f (pc := 25) (tgt := 68) dX1_isWord_25 (by decide) (nI_ge (by omega) (by omega)) ?_
      refine ex_aload_n (pc := 28) dX1_isWord_28 rfl ?_
      refine ex_get (pc := 29) dX1_isWord_29 fl_X1_47 hT.1 rfl ?_
      refine ex_iload_n (pc := 32) dX1_isWord_32 rfl ?_
      refine ex_iadd (pc := 33) dX1_isWord_33 ?_
      refine ex_aload_n (pc := 34) dX1_isWord_34 rfl ?_
      refine ex_get (pc := 35) dX1_isWord_35 fl_X1_15 hT.1 rfl ?_
      refine bx_icmp_ge_f (pc := 38) (tgt := 68) dX1_isWord_38 (by decide) (by rw [h11, hT.2.2.1, nI_add]; exact nI_ge (by omega) (by omega)) ?_
      refine ex_aload_n (pc := 41) dX1_isWord_41 rfl ?_
      refine ex_get (pc := 42) dX1_isWord_42 fl_X1_9 hT.1 rfl ?_
      refine ex_aload_n (pc := 45) dX1_isWord_45 rfl ?_
      refine ex_get (pc := 46) dX1_isWord_46 fl_X1_47 hT.1 rfl ?_
      rw [h11]
      refine ex_iload_n (pc := 49) dX1_isWord_49 rfl ?_
      refine ex_iadd (pc := 50) dX1_isWord_50 ?_
      rw [nI_add]
      refine ex_ildn (k := b + k) (pc := 51) dX1_isWord_51 hT.2.1 rfl (by omega) (by decide) ?_
      rw [(hB (b + k)).1]
      refine ex_aload_n (pc := 52) dX1_isWord_52 rfl ?_
      refine ex_iload_n (pc := 53) dX1_isWord_53 rfl ?_
      refine cx_VS1i (pc := 54) dX1_isWord_54 lk_X1_107 hi rfl (Nat.le_of_ble_eq_true rfl) (Nat.le_of_ble_eq_true rfl) (by omega) (c_S_ch hi (by omega) (by omega)) (fun h_54 x_54 q_54 => ?_)
      obtain ⟨e_54, f_54⟩ := q_54
      rw [e_54, f_54]
      refine bx_icmp_eq_t (pc := 57) (tgt := 62) dX1_isWord_57 (by decide) (hc) ?_
      refine sx_inc (pc := 62) dX1_isWord_62 rfl rfl (by decide) ?_
      show Ex _ _ _ _ _ _ [_, _, _] _ _ _
      refine ex_goto (pc := 65) (tgt := 20) dX1_isWord_65 (by decide) ?_
      exact ih (k + 1) (by omega) (fun j hj => if e0 : j = k then by rw [e0]; exact hc else hw j (by omega))
    · skip
      refine ex_iload_n (pc := 20) dX1_isWord_20 rfl ?_
      refine ex_aload_n (pc := 21) dX1_isWord_21 rfl ?_
      refine cx_VS0i (pc := 22) dX1_isWord_22 lk_X1_103 hi rfl (Nat.le_of_ble_eq_true rfl) (Nat.le_of_ble_eq_true rfl) (by omega) (c_S_len hi (by omega)) (fun h_22 x_22 q_22 => ?_)
      obtain ⟨e_22, f_22⟩ := q_22
      rw [e_22, f_22]
      refine bx_icmp_ge_f (pc := 25) (tgt := 68) dX1_isWord_25 (by decide) (nI_ge (by omega) (by omega)) ?_
      refine ex_aload_n (pc := 28) dX1_isWord_28 rfl ?_
      refine ex_get (pc := 29) dX1_isWord_29 fl_X1_47 hT.1 rfl ?_
      refine ex_iload_n (pc := 32) dX1_isWord_32 rfl ?_
      refine ex_iadd (pc := 33) dX1_isWord_33 ?_
      refine ex_aload_n (pc := 34) dX1_isWord_34 rfl ?_
      refine ex_get (pc := 35) dX1_isWord_35 fl_X1_15 hT.1 rfl ?_
      refine bx_icmp_ge_f (pc := 38) (tgt := 68) dX1_isWord_38 (by decide) (by rw [h11, hT.2.2.1, nI_add]; exact nI_ge (by omega) (by omega)) ?_
      refine ex_aload_n (pc := 41) dX1_isWord_41 rfl ?_
      refine ex_get (pc := 42) dX1_isWord_42 fl_X1_9 hT.1 rfl ?_
      refine ex_aload_n (pc := 45) dX1_isWord_45 rfl ?_
      refine ex_get (pc := 46) dX1_isWord_46 fl_X1_47 hT.1 rfl ?_
      rw [h11]
      refine ex_iload_n (pc := 49) dX1_isWord_49 rfl ?_
      refine ex_iadd (pc := 50) dX1_isWord_50 ?_
      rw [nI_add]
      refine ex_ildn (k := b + k) (pc := 51) dX1_isWord_51 hT.2.1 rfl (by omega) (by decide) ?_
      rw [(hB (b + k)).1]
      refine ex_aload_n (pc := 52) dX1_isWord_52 rfl ?_
      refine ex_iload_n (pc := 53) dX1_isWord_53 rfl ?_
      refine cx_VS1i (pc := 54) dX1_isWord_54 lk_X1_107 hi rfl (Nat.le_of_ble_eq_true rfl) (Nat.le_of_ble_eq_true rfl) (by omega) (c_S_ch hi (by omega) (by omega)) (fun h_54 x_54 q_54 => ?_)
      obtain ⟨e_54, f_54⟩ := q_54
      rw [e_54, f_54]
      refine bx_icmp_eq_f (pc := 57) (tgt := 62) dX1_isWord_57 (by decide) (hc) ?_
      refine ex_iconst (pc := 60) (v := 0) dX1_isWord_60 (by decide) ?_
      refine ex_zret dX1_isWord_61 rfl (by first | exact Or.inl rfl | exact Or.inr rfl | exact bI_01 _) ?_
      exact qi_mk ⟨rfl, fun q => absurd (q.2 k (by omega)) hc, fun _ => rfl⟩
set_option maxHeartbeats 4000000 in
set_option maxRecDepth 100000 in
theorem c_R_isWord {g : Gl} {d ks : Nat} {h : AH} {r tf : Nat → Int32} {tb : Nat → Nat} {tl b e i : Nat} (hT : RdT g h r tf tl) (hB : TpOk tf tb) (h11 : r 11 = nI b) (h12 : r 12 = nI e) (hbe : b < e) (het : e ≤ tl) (hi : i < 6) (hd : 4 ≤ d) : Ex g mX1_isWord d 0 ks 0 [some (.ref (g.1 + 40)), some (.ref (gK g (1 + i))), none] [] h (qi (fun h' x => h' = h ∧ (isW tb b e i → x = 1) ∧ (¬ isW tb b e i → x = 0))) := by
  have htl := hT.2.2.2
  have h5 := ln_5 i hi
  by_cases he : e = b + strLen.getD i 0
  · skip
    refine ex_aload_n (pc := 0) dX1_isWord_0 rfl ?_
    refine ex_get (pc := 1) dX1_isWord_1 fl_X1_50 hT.1 rfl ?_
    refine ex_aload_n (pc := 4) dX1_isWord_4 rfl ?_
    refine ex_get (pc := 5) dX1_isWord_5 fl_X1_47 hT.1 rfl ?_
    rw [h12, h11]
    refine ex_isub (pc := 8) dX1_isWord_8 ?_
    rw [nI_sub (by omega)]
    refine ex_aload_n (pc := 9) dX1_isWord_9 rfl ?_
    refine cx_VS0i (pc := 10) dX1_isWord_10 lk_X1_103 hi rfl (Nat.le_of_ble_eq_true rfl) (Nat.le_of_ble_eq_true rfl) (by omega) (c_S_len hi (by omega)) (fun h_10 x_10 q_10 => ?_)
    obtain ⟨e_10, f_10⟩ := q_10
    rw [e_10, f_10]
    refine bx_icmp_eq_t (pc := 13) (tgt := 18) dX1_isWord_13 (by decide) (by rw [he, Nat.add_sub_cancel_left]) ?_
    refine ex_iconst (pc := 18) (v := (nI 0)) dX1_isWord_18 (by decide) ?_
    refine sx_istore_n (pc := 19) dX1_isWord_19 rfl (by decide) ?_
    show Ex _ _ _ _ _ _ [_, _, _] _ _ _
    exact c_R_isWord_l hT hB h11 h12 hbe het hi hd he (strLen.getD i 0) 0 (Nat.zero_add _) (fun j hj => absurd hj (Nat.not_lt_zero _))
  · skip
    refine ex_aload_n (pc := 0) dX1_isWord_0 rfl ?_
    refine ex_get (pc := 1) dX1_isWord_1 fl_X1_50 hT.1 rfl ?_
    refine ex_aload_n (pc := 4) dX1_isWord_4 rfl ?_
    refine ex_get (pc := 5) dX1_isWord_5 fl_X1_47 hT.1 rfl ?_
    rw [h12, h11]
    refine ex_isub (pc := 8) dX1_isWord_8 ?_
    rw [nI_sub (by omega)]
    refine ex_aload_n (pc := 9) dX1_isWord_9 rfl ?_
    refine cx_VS0i (pc := 10) dX1_isWord_10 lk_X1_103 hi rfl (Nat.le_of_ble_eq_true rfl) (Nat.le_of_ble_eq_true rfl) (by omega) (c_S_len hi (by omega)) (fun h_10 x_10 q_10 => ?_)
    obtain ⟨e_10, f_10⟩ := q_10
    rw [e_10, f_10]
    refine bx_icmp_eq_f (pc := 13) (tgt := 18) dX1_isWord_13 (by decide) (fun q => he ((nI_eq (by omega) (by omega)).mp q |> fun y => by omega)) ?_
    refine ex_iconst (pc := 16) (v := 0) dX1_isWord_16 (by decide) ?_
    refine ex_zret dX1_isWord_17 rfl (by first | exact Or.inl rfl | exact Or.inr rfl | exact bI_01 _) ?_
    exact qi_mk ⟨rfl, fun q => absurd q.1 he, fun _ => rfl⟩
theorem isW_0 {tf : Nat → Int32} {tb : Nat → Nat} {b e : Nat} (hB : TpOk tf tb) : isW tb b e 0 ↔ (e = b + 5 ∧ kRe tb b) := by
  have q : ∀ k c, c < 256 → (nI (tb (b + k)) = nI c ↔ tb (b + k) = c) := fun k c hc => nI_eq (by have := (hB (b + k)).2; omega) (by omega)
  constructor
  · intro h
    exact ⟨h.1, (q 0 114 (by decide)).mp ((h.2 0 (by decide)).trans (by decide)), (q 1 101 (by decide)).mp ((h.2 1 (by decide)).trans (by decide)), (q 2 97 (by decide)).mp ((h.2 2 (by decide)).trans (by decide)), (q 3 99 (by decide)).mp ((h.2 3 (by decide)).trans (by decide)), (q 4 104 (by decide)).mp ((h.2 4 (by decide)).trans (by decide))⟩
  · intro h
    obtain ⟨h0, h1, h2, h3, h4, h5⟩ := h
    refine ⟨h0, fun k hk => ?_⟩
    have hk : k < 5 := hk
    rcases (show k = 0 ∨ k = 1 ∨ k = 2 ∨ k = 3 ∨ k = 4 by omega) with rfl | rfl | rfl | rfl | rfl
    · rw [Nat.add_zero, h1]; decide
    · rw [h2]; decide
    · rw [h3]; decide
    · rw [h4]; decide
    · rw [h5]; decide
theorem isW_1 {tf : Nat → Int32} {tb : Nat → Nat} {b e : Nat} (hB : TpOk tf tb) : isW tb b e 1 ↔ (e = b + 3 ∧ kFe tb b) := by
  have q : ∀ k c, c < 256 → (nI (tb (b + k)) = nI c ↔ tb (b + k) = c) := fun k c hc => nI_eq (by have := (hB (b + k)).2; omega) (by omega)
  constructor
  · intro h
    exact ⟨h.1, (q 0 102 (by decide)).mp ((h.2 0 (by decide)).trans (by decide)), (q 1 101 (by decide)).mp ((h.2 1 (by decide)).trans (by decide)), (q 2 101 (by decide)).mp ((h.2 2 (by decide)).trans (by decide))⟩
  · intro h
    obtain ⟨h0, h1, h2, h3⟩ := h
    refine ⟨h0, fun k hk => ?_⟩
    have hk : k < 3 := hk
    rcases (show k = 0 ∨ k = 1 ∨ k = 2 by omega) with rfl | rfl | rfl
    · rw [Nat.add_zero, h1]; decide
    · rw [h2]; decide
    · rw [h3]; decide
theorem isW_2 {tf : Nat → Int32} {tb : Nat → Nat} {b e : Nat} (hB : TpOk tf tb) : isW tb b e 2 ↔ (e = b + 4 ∧ kFi tb b) := by
  have q : ∀ k c, c < 256 → (nI (tb (b + k)) = nI c ↔ tb (b + k) = c) := fun k c hc => nI_eq (by have := (hB (b + k)).2; omega) (by omega)
  constructor
  · intro h
    exact ⟨h.1, (q 0 102 (by decide)).mp ((h.2 0 (by decide)).trans (by decide)), (q 1 105 (by decide)).mp ((h.2 1 (by decide)).trans (by decide)), (q 2 110 (by decide)).mp ((h.2 2 (by decide)).trans (by decide)), (q 3 101 (by decide)).mp ((h.2 3 (by decide)).trans (by decide))⟩
  · intro h
    obtain ⟨h0, h1, h2, h3, h4⟩ := h
    refine ⟨h0, fun k hk => ?_⟩
    have hk : k < 4 := hk
    rcases (show k = 0 ∨ k = 1 ∨ k = 2 ∨ k = 3 by omega) with rfl | rfl | rfl | rfl
    · rw [Nat.add_zero, h1]; decide
    · rw [h2]; decide
    · rw [h3]; decide
    · rw [h4]; decide
set_option maxHeartbeats 4000000 in
set_option maxRecDepth 100000 in
theorem keyOk (g : Gl) : KeyOk g := by
  intro d ks h r tf tb tl b hT hB hb h11 h12 hd
  have hen := en_rng (tb := tb) hb
  have hs : (tb b = 114 ∨ tb b = 102) → srt tb tl b = 1 := fun q => srt_1.mpr ⟨hb, by omega, by omega⟩
  by_cases w0 : isW tb b (enT tb tl b) 0
  · skip
    refine ex_aload_n (pc := 0) dX1_keyHere_0 rfl ?_
    refine ex_ldcS (pc := 1) (i := 0) dX1_keyHere_1 (by decide) rfl ?_
    refine cx_VL1i (pc := 3) dX1_keyHere_3 lk_X1_95 hT.1 rfl (Nat.le_of_ble_eq_true rfl) (Nat.le_of_ble_eq_true rfl) (by omega) (c_R_isWord (i := 0) hT hB h11 h12 (by omega) hen.2 (by decide) (by omega)) (fun h_3 x_3 q_3 => ?_)
    obtain ⟨e_3, y_3, n_3⟩ := q_3
    rw [e_3, y_3 w0]
    refine bx_if_eq_f (pc := 6) (tgt := 13) dX1_keyHere_6 (by decide) (by decide) ?_
    refine ex_iconst (pc := 9) (v := 0) dX1_keyHere_9 (by decide) ?_
    refine ex_goto (pc := 10) (tgt := 40) dX1_keyHere_10 (by decide) ?_
    refine ex_ret dX1_keyHere_40 rfl ?_
    refine qi_mk ⟨rfl, ?_⟩
    have e : kyv tb tl b = 0 := by
      unfold kyv
      rw [if_pos (hs (Or.inl ((isW_0 hB).mp w0).2.1)), if_pos ((isW_0 hB).mp w0)]
    rw [e]
    rfl
  · by_cases w1 : isW tb b (enT tb tl b) 1
    · skip
      refine ex_aload_n (pc := 0) dX1_keyHere_0 rfl ?_
      refine ex_ldcS (pc := 1) (i := 0) dX1_keyHere_1 (by decide) rfl ?_
      refine cx_VL1i (pc := 3) dX1_keyHere_3 lk_X1_95 hT.1 rfl (Nat.le_of_ble_eq_true rfl) (Nat.le_of_ble_eq_true rfl) (by omega) (c_R_isWord (i := 0) hT hB h11 h12 (by omega) hen.2 (by decide) (by omega)) (fun h_3 x_3 q_3 => ?_)
      obtain ⟨e_3, y_3, n_3⟩ := q_3
      rw [e_3, n_3 w0]
      refine bx_if_eq_t (pc := 6) (tgt := 13) dX1_keyHere_6 (by decide) (rfl) ?_
      refine ex_aload_n (pc := 13) dX1_keyHere_13 rfl ?_
      refine ex_ldcS (pc := 14) (i := 1) dX1_keyHere_14 (by decide) rfl ?_
      refine cx_VL1i (pc := 16) dX1_keyHere_16 lk_X1_95 hT.1 rfl (Nat.le_of_ble_eq_true rfl) (Nat.le_of_ble_eq_true rfl) (by omega) (c_R_isWord (i := 1) hT hB h11 h12 (by omega) hen.2 (by decide) (by omega)) (fun h_16 x_16 q_16 => ?_)
      obtain ⟨e_16, y_16, n_16⟩ := q_16
      rw [e_16, y_16 w1]
      refine bx_if_eq_f (pc := 19) (tgt := 26) dX1_keyHere_19 (by decide) (by decide) ?_
      refine ex_iconst (pc := 22) (v := 1) dX1_keyHere_22 (by decide) ?_
      refine ex_goto (pc := 23) (tgt := 40) dX1_keyHere_23 (by decide) ?_
      refine ex_ret dX1_keyHere_40 rfl ?_
      refine qi_mk ⟨rfl, ?_⟩
      have e : kyv tb tl b = 1 := by
        unfold kyv
        rw [if_pos (hs (Or.inr ((isW_1 hB).mp w1).2.1)), if_neg (fun q => w0 ((isW_0 hB).mpr q)), if_pos ((isW_1 hB).mp w1)]
      rw [e]
      rfl
    · by_cases w2 : isW tb b (enT tb tl b) 2
      · skip
        refine ex_aload_n (pc := 0) dX1_keyHere_0 rfl ?_
        refine ex_ldcS (pc := 1) (i := 0) dX1_keyHere_1 (by decide) rfl ?_
        refine cx_VL1i (pc := 3) dX1_keyHere_3 lk_X1_95 hT.1 rfl (Nat.le_of_ble_eq_true rfl) (Nat.le_of_ble_eq_true rfl) (by omega) (c_R_isWord (i := 0) hT hB h11 h12 (by omega) hen.2 (by decide) (by omega)) (fun h_3 x_3 q_3 => ?_)
        obtain ⟨e_3, y_3, n_3⟩ := q_3
        rw [e_3, n_3 w0]
        refine bx_if_eq_t (pc := 6) (tgt := 13) dX1_keyHere_6 (by decide) (rfl) ?_
        refine ex_aload_n (pc := 13) dX1_keyHere_13 rfl ?_
        refine ex_ldcS (pc := 14) (i := 1) dX1_keyHere_14 (by decide) rfl ?_
        refine cx_VL1i (pc := 16) dX1_keyHere_16 lk_X1_95 hT.1 rfl (Nat.le_of_ble_eq_true rfl) (Nat.le_of_ble_eq_true rfl) (by omega) (c_R_isWord (i := 1) hT hB h11 h12 (by omega) hen.2 (by decide) (by omega)) (fun h_16 x_16 q_16 => ?_)
        obtain ⟨e_16, y_16, n_16⟩ := q_16
        rw [e_16, n_16 w1]
        refine bx_if_eq_t (pc := 19) (tgt := 26) dX1_keyHere_19 (by decide) (rfl) ?_
        refine ex_aload_n (pc := 26) dX1_keyHere_26 rfl ?_
        refine ex_ldcS (pc := 27) (i := 2) dX1_keyHere_27 (by decide) rfl ?_
        refine cx_VL1i (pc := 29) dX1_keyHere_29 lk_X1_95 hT.1 rfl (Nat.le_of_ble_eq_true rfl) (Nat.le_of_ble_eq_true rfl) (by omega) (c_R_isWord (i := 2) hT hB h11 h12 (by omega) hen.2 (by decide) (by omega)) (fun h_29 x_29 q_29 => ?_)
        obtain ⟨e_29, y_29, n_29⟩ := q_29
        rw [e_29, y_29 w2]
        refine bx_if_eq_f (pc := 32) (tgt := 39) dX1_keyHere_32 (by decide) (by decide) ?_
        refine ex_iconst (pc := 35) (v := (nI 2)) dX1_keyHere_35 (by decide) ?_
        refine ex_goto (pc := 36) (tgt := 40) dX1_keyHere_36 (by decide) ?_
        refine ex_ret dX1_keyHere_40 rfl ?_
        refine qi_mk ⟨rfl, ?_⟩
        have e : kyv tb tl b = 2 := by
          unfold kyv
          rw [if_pos (hs (Or.inr ((isW_2 hB).mp w2).2.1)), if_neg (fun q => w0 ((isW_0 hB).mpr q)), if_neg (fun q => w1 ((isW_1 hB).mpr q)), if_pos ((isW_2 hB).mp w2)]
        rw [e]
        rfl
      · skip
        refine ex_aload_n (pc := 0) dX1_keyHere_0 rfl ?_
        refine ex_ldcS (pc := 1) (i := 0) dX1_keyHere_1 (by decide) rfl ?_
        refine cx_VL1i (pc := 3) dX1_keyHere_3 lk_X1_95 hT.1 rfl (Nat.le_of_ble_eq_true rfl) (Nat.le_of_ble_eq_true rfl) (by omega) (c_R_isWord (i := 0) hT hB h11 h12 (by omega) hen.2 (by decide) (by omega)) (fun h_3 x_3 q_3 => ?_)
        obtain ⟨e_3, y_3, n_3⟩ := q_3
        rw [e_3, n_3 w0]
        refine bx_if_eq_t (pc := 6) (tgt := 13) dX1_keyHere_6 (by decide) (rfl) ?_
        refine ex_aload_n (pc := 13) dX1_keyHere_13 rfl ?_
        refine ex_ldcS (pc := 14) (i := 1) dX1_keyHere_14 (by decide) rfl ?_
        refine cx_VL1i (pc := 16) dX1_keyHere_16 lk_X1_95 hT.1 rfl (Nat.le_of_ble_eq_true rfl) (Nat.le_of_ble_eq_true rfl) (by omega) (c_R_isWord (i := 1) hT hB h11 h12 (by omega) hen.2 (by decide) (by omega)) (fun h_16 x_16 q_16 => ?_)
        obtain ⟨e_16, y_16, n_16⟩ := q_16
        rw [e_16, n_16 w1]
        refine bx_if_eq_t (pc := 19) (tgt := 26) dX1_keyHere_19 (by decide) (rfl) ?_
        refine ex_aload_n (pc := 26) dX1_keyHere_26 rfl ?_
        refine ex_ldcS (pc := 27) (i := 2) dX1_keyHere_27 (by decide) rfl ?_
        refine cx_VL1i (pc := 29) dX1_keyHere_29 lk_X1_95 hT.1 rfl (Nat.le_of_ble_eq_true rfl) (Nat.le_of_ble_eq_true rfl) (by omega) (c_R_isWord (i := 2) hT hB h11 h12 (by omega) hen.2 (by decide) (by omega)) (fun h_29 x_29 q_29 => ?_)
        obtain ⟨e_29, y_29, n_29⟩ := q_29
        rw [e_29, n_29 w2]
        refine bx_if_eq_t (pc := 32) (tgt := 39) dX1_keyHere_32 (by decide) (rfl) ?_
        refine ex_iconst (pc := 39) (v := (-1)) dX1_keyHere_39 (by decide) ?_
        refine ex_ret dX1_keyHere_40 rfl ?_
        refine qi_mk ⟨rfl, ?_⟩
        have e : kyv tb tl b = 3 := by
          unfold kyv
          rw [if_neg (fun q => w0 ((isW_0 hB).mpr q)), if_neg (fun q => w1 ((isW_1 hB).mpr q)), if_neg (fun q => w2 ((isW_2 hB).mpr q))]
          split <;> rfl
        rw [e]
        rfl

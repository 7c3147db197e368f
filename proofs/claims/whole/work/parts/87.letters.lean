/-! literals: their length, and where a letter stands in one -/
theorem i2b_k : ∀ c, c < 128 → (nI c).toInt8.toInt32 = nI c := by decide +kernel
theorem i2c_k : ∀ c, c < 256 → ((nI c).toUInt32 % 65536).toInt32 = nI c := by decide +kernel
def ixL : List Nat → Nat → Nat → Int32
  | [], _, _ => -1
  | x :: l, k, c => if c = x then nI k else ixL l (k + 1) c
theorem six {P : Nat → Prop} (h0 : P 0) (h1 : P 1) (h2 : P 2) (h3 : P 3) (h4 : P 4) (h5 : P 5) : ∀ i, i < 6 → P i := by
  intro i hi
  rcases (show i = 0 ∨ i = 1 ∨ i = 2 ∨ i = 3 ∨ i = 4 ∨ i = 5 by omega) with rfl | rfl | rfl | rfl | rfl | rfl
  · exact h0
  · exact h1
  · exact h2
  · exact h3
  · exact h4
  · exact h5
theorem shr_0 : ∀ i, i < 6 → shr32 (nI (strLen.getD i 0)) 0 = nI (strLen.getD i 0) := six (by decide) (by decide) (by decide) (by decide) (by decide) (by decide)
set_option maxHeartbeats 4000000 in
set_option maxRecDepth 100000 in
theorem c_S_coder {g : Gl} {d ks : Nat} {h : AH} {i : Nat} (hi : i < 6) : Ex g mJ0_coder_7d493 d 0 ks 0 [some (.ref (gK g (1 + i)))] [] h (qi (fun h' x => h' = h ∧ x = 0)) := by
  refine ex_compact (pc := 0) dJ0_coder_7d493_0 fl_J0_38 ?_
  refine bx_if_eq_f (pc := 3) (tgt := 13) dJ0_coder_7d493_3 (by decide) (by decide) ?_
  refine ex_aload_n (pc := 6) dJ0_coder_7d493_6 rfl ?_
  refine ex_strCoder (pc := 7) dJ0_coder_7d493_7 hi fl_J0_15 ?_
  refine ex_goto (pc := 10) (tgt := 14) dJ0_coder_7d493_10 (by decide) ?_
  refine ex_iret dJ0_coder_7d493_14 rfl rfl ?_
  exact qi_mk ⟨rfl, rfl⟩
set_option maxHeartbeats 4000000 in
set_option maxRecDepth 100000 in
theorem c_S_lat {g : Gl} {d ks : Nat} {h : AH} {i : Nat} (hi : i < 6) : Ex g mJ0_isLatin1_aae02 d 0 ks 0 [some (.ref (gK g (1 + i)))] [] h (qi (fun h' x => h' = h ∧ x = 1)) := by
  refine ex_compact (pc := 0) dJ0_isLatin1_aae02_0 fl_J0_38 ?_
  refine bx_if_eq_f (pc := 3) (tgt := 17) dJ0_isLatin1_aae02_3 (by decide) (by decide) ?_
  refine ex_aload_n (pc := 6) dJ0_isLatin1_aae02_6 rfl ?_
  refine ex_strCoder (pc := 7) dJ0_isLatin1_aae02_7 hi fl_J0_15 ?_
  refine bx_if_ne_f (pc := 10) (tgt := 17) dJ0_isLatin1_aae02_10 (by decide) (rfl) ?_
  refine ex_iconst (pc := 13) (v := 1) dJ0_isLatin1_aae02_13 (by decide) ?_
  refine ex_goto (pc := 14) (tgt := 18) dJ0_isLatin1_aae02_14 (by decide) ?_
  refine ex_zret dJ0_isLatin1_aae02_18 rfl (by first | exact Or.inl rfl | exact Or.inr rfl | exact bI_01 _) ?_
  exact qi_mk ⟨rfl, rfl⟩
set_option maxHeartbeats 4000000 in
set_option maxRecDepth 100000 in
theorem c_S_len {g : Gl} {d ks : Nat} {h : AH} {i : Nat} (hi : i < 6) (hd : 1 ≤ d) : Ex g mJ0_length_8abf5 d 0 ks 0 [some (.ref (gK g (1 + i)))] [] h (qi (fun h' x => h' = h ∧ x = nI (strLen.getD i 0))) := by
  refine ex_aload_n (pc := 0) dJ0_length_8abf5_0 rfl ?_
  refine ex_strValue (pc := 1) dJ0_length_8abf5_1 hi fl_J0_9 ?_
  refine ex_strBlen (pc := 4) dJ0_length_8abf5_4 hi ?_
  refine ex_aload_n (pc := 5) dJ0_length_8abf5_5 rfl ?_
  refine cx_VS0i (pc := 6) dJ0_length_8abf5_6 lk_J0_335 hi rfl (Nat.le_of_ble_eq_true rfl) (Nat.le_of_ble_eq_true rfl) (by omega) (c_S_coder hi) (fun h_6 x_6 q_6 => ?_)
  obtain ⟨e_6, f_6⟩ := q_6
  rw [e_6, f_6]
  refine ex_ishr (pc := 9) dJ0_length_8abf5_9 ?_
  refine ex_ret dJ0_length_8abf5_10 rfl ?_
  exact qi_mk ⟨rfl, shr_0 i hi⟩
set_option maxHeartbeats 4000000 in
set_option maxRecDepth 100000 in
theorem c_S_can {g : Gl} {d ks : Nat} {h : AH} {c : Nat} (hc : c < 256) : Ex g mJ1_canEncode_9a6ad d 0 ks 0 [some (.int (nI c))] [] h (qi (fun h' x => h' = h ∧ x = 1)) := by
  refine ex_iload_n (pc := 0) dJ1_canEncode_9a6ad_0 rfl ?_
  refine bx_if_lt_f (pc := 1) (tgt := 15) dJ1_canEncode_9a6ad_1 (by decide) (Int32.not_lt.mpr (nI_pos' (by omega))) ?_
  refine ex_iload_n (pc := 4) dJ1_canEncode_9a6ad_4 rfl ?_
  refine ex_sipush (pc := 5) (v := (nI 255)) dJ1_canEncode_9a6ad_5 (by decide) ?_
  refine bx_icmp_gt_f (pc := 8) (tgt := 15) dJ1_canEncode_9a6ad_8 (by decide) (fun q => absurd ((nI_ltI (by omega) (by omega)).mp q) (by omega)) ?_
  refine ex_iconst (pc := 11) (v := 1) dJ1_canEncode_9a6ad_11 (by decide) ?_
  refine ex_goto (pc := 12) (tgt := 16) dJ1_canEncode_9a6ad_12 (by decide) ?_
  refine ex_zret dJ1_canEncode_9a6ad_16 rfl (by first | exact Or.inl rfl | exact Or.inr rfl | exact bI_01 _) ?_
  exact qi_mk ⟨rfl, rfl⟩
set_option maxHeartbeats 4000000 in
set_option maxRecDepth 100000 in
theorem c_S_ixc3 {g : Gl} {d ks : Nat} {h : AH} {c : Nat} (hc : c < 128) : Ex g mJ1_indexOfChar_4cfef d 0 ks 0 [some (.ref (gK g (10 + 3))), some (.int (nI c)), some (.int (nI 0)), some (.int (nI 3)), none, none] [] h (qi (fun h' x => h' = h ∧ x = ixL [116, 115, 104] 0 c)) := by
  refine ex_iload_n (pc := 0) dJ1_indexOfChar_4cfef_0 rfl ?_
  refine ex_i2b (pc := 1) dJ1_indexOfChar_4cfef_1 ?_
  rw [i2b_k c hc]
  refine sx_istore (pc := 2) dJ1_indexOfChar_4cfef_2 rfl (by decide) ?_
  show Ex _ _ _ _ _ _ [_, _, _, _, _, _] _ _ _
  refine ex_iload_n (pc := 4) dJ1_indexOfChar_4cfef_4 rfl ?_
  refine sx_istore (pc := 5) dJ1_indexOfChar_4cfef_5 rfl (by decide) ?_
  show Ex _ _ _ _ _ _ [_, _, _, _, _, _] _ _ _
  refine ex_iload (pc := 7) dJ1_indexOfChar_4cfef_7 rfl ?_
  refine ex_iload_n (pc := 9) dJ1_indexOfChar_4cfef_9 rfl ?_
  refine bx_icmp_ge_f (pc := 10) (tgt := 31) dJ1_indexOfChar_4cfef_10 (by decide) (by decide) ?_
  refine ex_aload_n (pc := 13) dJ1_indexOfChar_4cfef_13 rfl ?_
  refine ex_iload (pc := 14) dJ1_indexOfChar_4cfef_14 rfl ?_
  refine ex_strBald (pc := 16) dJ1_indexOfChar_4cfef_16 (by decide) (by unfold vp_in; decide) ?_
  refine ex_iload (pc := 17) dJ1_indexOfChar_4cfef_17 rfl ?_
  refine ex_icmp_ne (pc := 19) (tgt := 25) dJ1_indexOfChar_4cfef_19 (by decide) (fun c_19 => ?_) (fun c_19 => ?_)
  · skip
    have n0 : ¬ c = 116 := fun q => c_19 (by rw [q]; decide)
    first | refine sx_inc (pc := 25) dJ1_indexOfChar_4cfef_25 rfl rfl (by decide) ?_ | refine sx_iinc (pc := 25) dJ1_indexOfChar_4cfef_25 rfl rfl (by decide) ?_
    show Ex _ _ _ _ _ _ [_, _, _, _, _, _] _ _ _
    refine ex_goto (pc := 28) (tgt := 7) dJ1_indexOfChar_4cfef_28 (by decide) ?_
    refine ex_iload (pc := 7) dJ1_indexOfChar_4cfef_7 rfl ?_
    refine ex_iload_n (pc := 9) dJ1_indexOfChar_4cfef_9 rfl ?_
    refine bx_icmp_ge_f (pc := 10) (tgt := 31) dJ1_indexOfChar_4cfef_10 (by decide) (by decide) ?_
    refine ex_aload_n (pc := 13) dJ1_indexOfChar_4cfef_13 rfl ?_
    refine ex_iload (pc := 14) dJ1_indexOfChar_4cfef_14 rfl ?_
    refine ex_strBald (pc := 16) dJ1_indexOfChar_4cfef_16 (by decide) (by unfold vp_in; decide) ?_
    refine ex_iload (pc := 17) dJ1_indexOfChar_4cfef_17 rfl ?_
    refine ex_icmp_ne (pc := 19) (tgt := 25) dJ1_indexOfChar_4cfef_19 (by decide) (fun c_19 => ?_) (fun c_19 => ?_)
    · skip
      have n1 : ¬ c = 115 := fun q => c_19 (by rw [q]; decide)
      first | refine sx_inc (pc := 25) dJ1_indexOfChar_4cfef_25 rfl rfl (by decide) ?_ | refine sx_iinc (pc := 25) dJ1_indexOfChar_4cfef_25 rfl rfl (by decide) ?_
      show Ex _ _ _ _ _ _ [_, _, _, _, _, _] _ _ _
      refine ex_goto (pc := 28) (tgt := 7) dJ1_indexOfChar_4cfef_28 (by decide) ?_
      refine ex_iload (pc := 7) dJ1_indexOfChar_4cfef_7 rfl ?_
      refine ex_iload_n (pc := 9) dJ1_indexOfChar_4cfef_9 rfl ?_
      refine bx_icmp_ge_f (pc := 10) (tgt := 31) dJ1_indexOfChar_4cfef_10 (by decide) (by decide) ?_
      refine ex_aload_n (pc := 13) dJ1_indexOfChar_4cfef_13 rfl ?_
      refine ex_iload (pc := 14) dJ1_indexOfChar_4cfef_14 rfl ?_
      refine ex_strBald (pc := 16) dJ1_indexOfChar_4cfef_16 (by decide) (by unfold vp_in; decide) ?_
      refine ex_iload (pc := 17) dJ1_indexOfChar_4cfef_17 rfl ?_
      refine ex_icmp_ne (pc := 19) (tgt := 25) dJ1_indexOfChar_4cfef_19 (by decide) (fun c_19 => ?_) (fun c_19 => ?_)
      · skip
        have n2 : ¬ c = 104 := fun q => c_19 (by rw [q]; decide)
        first | refine sx_inc (pc := 25) dJ1_indexOfChar_4cfef_25 rfl rfl (by decide) ?_ | refine sx_iinc (pc := 25) dJ1_indexOfChar_4cfef_25 rfl rfl (by decide) ?_
        show Ex _ _ _ _ _ _ [_, _, _, _, _, _] _ _ _
        refine ex_goto (pc := 28) (tgt := 7) dJ1_indexOfChar_4cfef_28 (by decide) ?_
        refine ex_iload (pc := 7) dJ1_indexOfChar_4cfef_7 rfl ?_
        refine ex_iload_n (pc := 9) dJ1_indexOfChar_4cfef_9 rfl ?_
        refine bx_icmp_ge_t (pc := 10) (tgt := 31) dJ1_indexOfChar_4cfef_10 (by decide) (by decide) ?_
        refine ex_iconst (pc := 31) (v := (-1)) dJ1_indexOfChar_4cfef_31 (by decide) ?_
        refine ex_ret dJ1_indexOfChar_4cfef_32 rfl ?_
        refine qi_mk ⟨rfl, ?_⟩
        rw [ixL, if_neg n0, ixL, if_neg n1, ixL, if_neg n2, ixL]
      · skip
        have y : c = 104 := by
          have y0 : nI 104 = nI c := Eq.trans (by decide) c_19
          exact ((nI_eq (by omega) (by omega)).mp y0).symm
        refine ex_iload (pc := 22) dJ1_indexOfChar_4cfef_22 rfl ?_
        refine ex_ret dJ1_indexOfChar_4cfef_24 rfl ?_
        refine qi_mk ⟨rfl, ?_⟩
        rw [ixL, if_neg n0, ixL, if_neg n1, ixL, if_pos y]
    · skip
      have y : c = 115 := by
        have y0 : nI 115 = nI c := Eq.trans (by decide) c_19
        exact ((nI_eq (by omega) (by omega)).mp y0).symm
      refine ex_iload (pc := 22) dJ1_indexOfChar_4cfef_22 rfl ?_
      refine ex_ret dJ1_indexOfChar_4cfef_24 rfl ?_
      refine qi_mk ⟨rfl, ?_⟩
      rw [ixL, if_neg n0, ixL, if_pos y]
  · skip
    have y : c = 116 := by
      have y0 : nI 116 = nI c := Eq.trans (by decide) c_19
      exact ((nI_eq (by omega) (by omega)).mp y0).symm
    refine ex_iload (pc := 22) dJ1_indexOfChar_4cfef_22 rfl ?_
    refine ex_ret dJ1_indexOfChar_4cfef_24 rfl ?_
    refine qi_mk ⟨rfl, ?_⟩
    rw [ixL, if_pos y]
set_option maxHeartbeats 4000000 in
set_option maxRecDepth 100000 in
theorem c_S_ixb3 {g : Gl} {d ks : Nat} {h : AH} {c : Nat} (hc : c < 128) (hd : 1 ≤ d) : Ex g mJ1_indexOf_4cfef d 0 ks 0 [some (.ref (gK g (10 + 3))), some (.int (nI c)), some (.int (nI 0)), some (.int (nI 3))] [] h (qi (fun h' x => h' = h ∧ x = ixL [116, 115, 104] 0 c)) := by
  refine ex_iload_n (pc := 0) dJ1_indexOf_4cfef_0 rfl ?_
  refine cx_SL1i (pc := 1) dJ1_indexOf_4cfef_1 lk_J1_88 rfl (Nat.le_of_ble_eq_true rfl) (Nat.le_of_ble_eq_true rfl) (by omega) (c_S_can (by omega)) (fun h_1 x_1 q_1 => ?_)
  obtain ⟨e_1, f_1⟩ := q_1
  rw [e_1, f_1]
  refine bx_if_ne_t (pc := 4) (tgt := 9) dJ1_indexOf_4cfef_4 (by decide) (by decide) ?_
  refine ex_iload_n (pc := 9) dJ1_indexOf_4cfef_9 rfl ?_
  refine ex_iconst (pc := 10) (v := (nI 0)) dJ1_indexOf_4cfef_10 (by decide) ?_
  refine cx_SL2i (pc := 11) dJ1_indexOf_4cfef_11 lk_J1_92 rfl (Nat.le_of_ble_eq_true rfl) (Nat.le_of_ble_eq_true rfl) (by omega) (c_max _ _) (fun h_11 x_11 q_11 => ?_)
  obtain ⟨e_11, f_11⟩ := q_11
  rw [e_11, f_11]
  rw [show mx32 (nI 0) (nI 0) = nI 0 by decide]
  refine sx_istore_n (pc := 14) dJ1_indexOf_4cfef_14 rfl (by decide) ?_
  show Ex _ _ _ _ _ _ [_, _, _, _] _ _ _
  refine ex_iload_n (pc := 15) dJ1_indexOf_4cfef_15 rfl ?_
  refine ex_aload_n (pc := 16) dJ1_indexOf_4cfef_16 rfl ?_
  refine ex_strBlen (pc := 17) dJ1_indexOf_4cfef_17 (by decide) ?_
  refine cx_SL2i (pc := 18) dJ1_indexOf_4cfef_18 lk_J1_38 rfl (Nat.le_of_ble_eq_true rfl) (Nat.le_of_ble_eq_true rfl) (by omega) (c_min _ _) (fun h_18 x_18 q_18 => ?_)
  obtain ⟨e_18, f_18⟩ := q_18
  rw [e_18, f_18]
  rw [show mn32 (nI 3) (nI (strLen.getD 3 0)) = nI 3 by decide]
  refine sx_istore_n (pc := 21) dJ1_indexOf_4cfef_21 rfl (by decide) ?_
  show Ex _ _ _ _ _ _ [_, _, _, _] _ _ _
  refine ex_iload_n (pc := 22) dJ1_indexOf_4cfef_22 rfl ?_
  refine ex_iload_n (pc := 23) dJ1_indexOf_4cfef_23 rfl ?_
  refine bx_icmp_lt_t (pc := 24) (tgt := 29) dJ1_indexOf_4cfef_24 (by decide) (by decide) ?_
  refine ex_aload_n (pc := 29) dJ1_indexOf_4cfef_29 rfl ?_
  refine ex_iload_n (pc := 30) dJ1_indexOf_4cfef_30 rfl ?_
  refine ex_iload_n (pc := 31) dJ1_indexOf_4cfef_31 rfl ?_
  refine ex_iload_n (pc := 32) dJ1_indexOf_4cfef_32 rfl ?_
  refine cx_SL4i (pc := 33) dJ1_indexOf_4cfef_33 lk_J1_95 rfl (Nat.le_of_ble_eq_true rfl) (Nat.le_of_ble_eq_true rfl) (by omega) (c_S_ixc3 hc) (fun h_33 x_33 q_33 => ?_)
  obtain ⟨e_33, f_33⟩ := q_33
  rw [e_33, f_33]
  refine ex_ret dJ1_indexOf_4cfef_36 rfl ?_
  exact qi_mk ⟨rfl, rfl⟩
set_option maxHeartbeats 4000000 in
set_option maxRecDepth 100000 in
theorem c_S_ixa3 {g : Gl} {d ks : Nat} {h : AH} {c : Nat} (hc : c < 128) (hd : 2 ≤ d) : Ex g mJ0_indexOf_7cf53 d 0 ks 0 [some (.ref (gK g (1 + 3))), some (.int (nI c)), some (.int (nI 0))] [] h (qi (fun h' x => h' = h ∧ x = ixL [116, 115, 104] 0 c)) := by
  refine ex_aload_n (pc := 0) dJ0_indexOf_7cf53_0 rfl ?_
  refine cx_VS0i (pc := 1) dJ0_indexOf_7cf53_1 lk_J0_492 (by decide) rfl (Nat.le_of_ble_eq_true rfl) (Nat.le_of_ble_eq_true rfl) (by omega) (c_S_lat (by decide)) (fun h_1 x_1 q_1 => ?_)
  obtain ⟨e_1, f_1⟩ := q_1
  rw [e_1, f_1]
  refine bx_if_eq_f (pc := 4) (tgt := 23) dJ0_indexOf_7cf53_4 (by decide) (by decide) ?_
  refine ex_aload_n (pc := 7) dJ0_indexOf_7cf53_7 rfl ?_
  refine ex_strValue (pc := 8) (i := 3) dJ0_indexOf_7cf53_8 (by decide) fl_J0_9 ?_
  refine ex_iload_n (pc := 11) dJ0_indexOf_7cf53_11 rfl ?_
  refine ex_iload_n (pc := 12) dJ0_indexOf_7cf53_12 rfl ?_
  refine ex_aload_n (pc := 13) dJ0_indexOf_7cf53_13 rfl ?_
  refine cx_VS0i (pc := 14) dJ0_indexOf_7cf53_14 lk_J0_505 (by decide) rfl (Nat.le_of_ble_eq_true rfl) (Nat.le_of_ble_eq_true rfl) (by omega) (c_S_len (by decide) (by omega)) (fun h_14 x_14 q_14 => ?_)
  obtain ⟨e_14, f_14⟩ := q_14
  rw [e_14, f_14]
  refine cx_SL4i (pc := 17) dJ0_indexOf_7cf53_17 lk_J0_637 rfl (Nat.le_of_ble_eq_true rfl) (Nat.le_of_ble_eq_true rfl) (by omega) (c_S_ixb3 hc (by omega)) (fun h_17 x_17 q_17 => ?_)
  obtain ⟨e_17, f_17⟩ := q_17
  rw [e_17, f_17]
  refine ex_goto (pc := 20) (tgt := 36) dJ0_indexOf_7cf53_20 (by decide) ?_
  refine ex_ret dJ0_indexOf_7cf53_36 rfl ?_
  exact qi_mk ⟨rfl, rfl⟩
set_option maxHeartbeats 4000000 in
set_option maxRecDepth 100000 in
theorem c_S_ix3 {g : Gl} {d ks : Nat} {h : AH} {c : Nat} (hc : c < 128) (hd : 3 ≤ d) : Ex g mJ0_indexOf_0f7a4 d 0 ks 0 [some (.ref (gK g (1 + 3))), some (.int (nI c))] [] h (qi (fun h' x => h' = h ∧ x = ixL [116, 115, 104] 0 c)) := by
  refine ex_aload_n (pc := 0) dJ0_indexOf_0f7a4_0 rfl ?_
  refine ex_iload_n (pc := 1) dJ0_indexOf_0f7a4_1 rfl ?_
  refine ex_iconst (pc := 2) (v := (nI 0)) dJ0_indexOf_0f7a4_2 (by decide) ?_
  refine cx_VS2i (pc := 3) dJ0_indexOf_0f7a4_3 lk_J0_633 (by decide) rfl (Nat.le_of_ble_eq_true rfl) (Nat.le_of_ble_eq_true rfl) (by omega) (c_S_ixa3 hc (by omega)) (fun h_3 x_3 q_3 => ?_)
  obtain ⟨e_3, f_3⟩ := q_3
  rw [e_3, f_3]
  refine ex_ret dJ0_indexOf_0f7a4_6 rfl ?_
  exact qi_mk ⟨rfl, rfl⟩
set_option maxHeartbeats 4000000 in
set_option maxRecDepth 100000 in
theorem c_S_ixc4 {g : Gl} {d ks : Nat} {h : AH} {c : Nat} (hc : c < 128) : Ex g mJ1_indexOfChar_4cfef d 0 ks 0 [some (.ref (gK g (10 + 4))), some (.int (nI c)), some (.int (nI 0)), some (.int (nI 2)), none, none] [] h (qi (fun h' x => h' = h ∧ x = ixL [99, 117] 0 c)) := by
  refine ex_iload_n (pc := 0) dJ1_indexOfChar_4cfef_0 rfl ?_
  refine ex_i2b (pc := 1) dJ1_indexOfChar_4cfef_1 ?_
  rw [i2b_k c hc]
  refine sx_istore (pc := 2) dJ1_indexOfChar_4cfef_2 rfl (by decide) ?_
  show Ex _ _ _ _ _ _ [_, _, _, _, _, _] _ _ _
  refine ex_iload_n (pc := 4) dJ1_indexOfChar_4cfef_4 rfl ?_
  refine sx_istore (pc := 5) dJ1_indexOfChar_4cfef_5 rfl (by decide) ?_
  show Ex _ _ _ _ _ _ [_, _, _, _, _, _] _ _ _
  refine ex_iload (pc := 7) dJ1_indexOfChar_4cfef_7 rfl ?_
  refine ex_iload_n (pc := 9) dJ1_indexOfChar_4cfef_9 rfl ?_
  refine bx_icmp_ge_f (pc := 10) (tgt := 31) dJ1_indexOfChar_4cfef_10 (by decide) (by decide) ?_
  refine ex_aload_n (pc := 13) dJ1_indexOfChar_4cfef_13 rfl ?_
  refine ex_iload (pc := 14) dJ1_indexOfChar_4cfef_14 rfl ?_
  refine ex_strBald (pc := 16) dJ1_indexOfChar_4cfef_16 (by decide) (by unfold vp_in; decide) ?_
  refine ex_iload (pc := 17) dJ1_indexOfChar_4cfef_17 rfl ?_
  refine ex_icmp_ne (pc := 19) (tgt := 25) dJ1_indexOfChar_4cfef_19 (by decide) (fun c_19 => ?_) (fun c_19 => ?_)
  · skip
    have n0 : ¬ c = 99 := fun q => c_19 (by rw [q]; decide)
    first | refine sx_inc (pc := 25) dJ1_indexOfChar_4cfef_25 rfl rfl (by decide) ?_ | refine sx_iinc (pc := 25) dJ1_indexOfChar_4cfef_25 rfl rfl (by decide) ?_
    show Ex _ _ _ _ _ _ [_, _, _, _, _, _] _ _ _
    refine ex_goto (pc := 28) (tgt := 7) dJ1_indexOfChar_4cfef_28 (by decide) ?_
    refine ex_iload (pc := 7) dJ1_indexOfChar_4cfef_7 rfl ?_
    refine ex_iload_n (pc := 9) dJ1_indexOfChar_4cfef_9 rfl ?_
    refine bx_icmp_ge_f (pc := 10) (tgt := 31) dJ1_indexOfChar_4cfef_10 (by decide) (by decide) ?_
    refine ex_aload_n (pc := 13) dJ1_indexOfChar_4cfef_13 rfl ?_
    refine ex_iload (pc := 14) dJ1_indexOfChar_4cfef_14 rfl ?_
    refine ex_strBald (pc := 16) dJ1_indexOfChar_4cfef_16 (by decide) (by unfold vp_in; decide) ?_
    refine ex_iload (pc := 17) dJ1_indexOfChar_4cfef_17 rfl ?_
    refine ex_icmp_ne (pc := 19) (tgt := 25) dJ1_indexOfChar_4cfef_19 (by decide) (fun c_19 => ?_) (fun c_19 => ?_)
    · skip
      have n1 : ¬ c = 117 := fun q => c_19 (by rw [q]; decide)
      first | refine sx_inc (pc := 25) dJ1_indexOfChar_4cfef_25 rfl rfl (by decide) ?_ | refine sx_iinc (pc := 25) dJ1_indexOfChar_4cfef_25 rfl rfl (by decide) ?_
      show Ex _ _ _ _ _ _ [_, _, _, _, _, _] _ _ _
      refine ex_goto (pc := 28) (tgt := 7) dJ1_indexOfChar_4cfef_28 (by decide) ?_
      refine ex_iload (pc := 7) dJ1_indexOfChar_4cfef_7 rfl ?_
      refine ex_iload_n (pc := 9) dJ1_indexOfChar_4cfef_9 rfl ?_
      refine bx_icmp_ge_t (pc := 10) (tgt := 31) dJ1_indexOfChar_4cfef_10 (by decide) (by decide) ?_
      refine ex_iconst (pc := 31) (v := (-1)) dJ1_indexOfChar_4cfef_31 (by decide) ?_
      refine ex_ret dJ1_indexOfChar_4cfef_32 rfl ?_
      refine qi_mk ⟨rfl, ?_⟩
      rw [ixL, if_neg n0, ixL, if_neg n1, ixL]
    · skip
      have y : c = 117 := by
        have y0 : nI 117 = nI c := Eq.trans (by decide) c_19
        exact ((nI_eq (by omega) (by omega)).mp y0).symm
      refine ex_iload (pc := 22) dJ1_indexOfChar_4cfef_22 rfl ?_
      refine ex_ret dJ1_indexOfChar_4cfef_24 rfl ?_
      refine qi_mk ⟨rfl, ?_⟩
      rw [ixL, if_neg n0, ixL, if_pos y]
  · skip
    have y : c = 99 := by
      have y0 : nI 99 = nI c := Eq.trans (by decide) c_19
      exact ((nI_eq (by omega) (by omega)).mp y0).symm
    refine ex_iload (pc := 22) dJ1_indexOfChar_4cfef_22 rfl ?_
    refine ex_ret dJ1_indexOfChar_4cfef_24 rfl ?_
    refine qi_mk ⟨rfl, ?_⟩
    rw [ixL, if_pos y]
set_option maxHeartbeats 4000000 in
set_option maxRecDepth 100000 in
theorem c_S_ixb4 {g : Gl} {d ks : Nat} {h : AH} {c : Nat} (hc : c < 128) (hd : 1 ≤ d) : Ex g mJ1_indexOf_4cfef d 0 ks 0 [some (.ref (gK g (10 + 4))), some (.int (nI c)), some (.int (nI 0)), some (.int (nI 2))] [] h (qi (fun h' x => h' = h ∧ x = ixL [99, 117] 0 c)) := by
  refine ex_iload_n (pc := 0) dJ1_indexOf_4cfef_0 rfl ?_
  refine cx_SL1i (pc := 1) dJ1_indexOf_4cfef_1 lk_J1_88 rfl (Nat.le_of_ble_eq_true rfl) (Nat.le_of_ble_eq_true rfl) (by omega) (c_S_can (by omega)) (fun h_1 x_1 q_1 => ?_)
  obtain ⟨e_1, f_1⟩ := q_1
  rw [e_1, f_1]
  refine bx_if_ne_t (pc := 4) (tgt := 9) dJ1_indexOf_4cfef_4 (by decide) (by decide) ?_
  refine ex_iload_n (pc := 9) dJ1_indexOf_4cfef_9 rfl ?_
  refine ex_iconst (pc := 10) (v := (nI 0)) dJ1_indexOf_4cfef_10 (by decide) ?_
  refine cx_SL2i (pc := 11) dJ1_indexOf_4cfef_11 lk_J1_92 rfl (Nat.le_of_ble_eq_true rfl) (Nat.le_of_ble_eq_true rfl) (by omega) (c_max _ _) (fun h_11 x_11 q_11 => ?_)
  obtain ⟨e_11, f_11⟩ := q_11
  rw [e_11, f_11]
  rw [show mx32 (nI 0) (nI 0) = nI 0 by decide]
  refine sx_istore_n (pc := 14) dJ1_indexOf_4cfef_14 rfl (by decide) ?_
  show Ex _ _ _ _ _ _ [_, _, _, _] _ _ _
  refine ex_iload_n (pc := 15) dJ1_indexOf_4cfef_15 rfl ?_
  refine ex_aload_n (pc := 16) dJ1_indexOf_4cfef_16 rfl ?_
  refine ex_strBlen (pc := 17) dJ1_indexOf_4cfef_17 (by decide) ?_
  refine cx_SL2i (pc := 18) dJ1_indexOf_4cfef_18 lk_J1_38 rfl (Nat.le_of_ble_eq_true rfl) (Nat.le_of_ble_eq_true rfl) (by omega) (c_min _ _) (fun h_18 x_18 q_18 => ?_)
  obtain ⟨e_18, f_18⟩ := q_18
  rw [e_18, f_18]
  rw [show mn32 (nI 2) (nI (strLen.getD 4 0)) = nI 2 by decide]
  refine sx_istore_n (pc := 21) dJ1_indexOf_4cfef_21 rfl (by decide) ?_
  show Ex _ _ _ _ _ _ [_, _, _, _] _ _ _
  refine ex_iload_n (pc := 22) dJ1_indexOf_4cfef_22 rfl ?_
  refine ex_iload_n (pc := 23) dJ1_indexOf_4cfef_23 rfl ?_
  refine bx_icmp_lt_t (pc := 24) (tgt := 29) dJ1_indexOf_4cfef_24 (by decide) (by decide) ?_
  refine ex_aload_n (pc := 29) dJ1_indexOf_4cfef_29 rfl ?_
  refine ex_iload_n (pc := 30) dJ1_indexOf_4cfef_30 rfl ?_
  refine ex_iload_n (pc := 31) dJ1_indexOf_4cfef_31 rfl ?_
  refine ex_iload_n (pc := 32) dJ1_indexOf_4cfef_32 rfl ?_
  refine cx_SL4i (pc := 33) dJ1_indexOf_4cfef_33 lk_J1_95 rfl (Nat.le_of_ble_eq_true rfl) (Nat.le_of_ble_eq_true rfl) (by omega) (c_S_ixc4 hc) (fun h_33 x_33 q_33 => ?_)
  obtain ⟨e_33, f_33⟩ := q_33
  rw [e_33, f_33]
  refine ex_ret dJ1_indexOf_4cfef_36 rfl ?_
  exact qi_mk ⟨rfl, rfl⟩
set_option maxHeartbeats 4000000 in
set_option maxRecDepth 100000 in
theorem c_S_ixa4 {g : Gl} {d ks : Nat} {h : AH} {c : Nat} (hc : c < 128) (hd : 2 ≤ d) : Ex g mJ0_indexOf_7cf53 d 0 ks 0 [some (.ref (gK g (1 + 4))), some (.int (nI c)), some (.int (nI 0))] [] h (qi (fun h' x => h' = h ∧ x = ixL [99, 117] 0 c)) := by
  refine ex_aload_n (pc := 0) dJ0_indexOf_7cf53_0 rfl ?_
  refine cx_VS0i (pc := 1) dJ0_indexOf_7cf53_1 lk_J0_492 (by decide) rfl (Nat.le_of_ble_eq_true rfl) (Nat.le_of_ble_eq_true rfl) (by omega) (c_S_lat (by decide)) (fun h_1 x_1 q_1 => ?_)
  obtain ⟨e_1, f_1⟩ := q_1
  rw [e_1, f_1]
  refine bx_if_eq_f (pc := 4) (tgt := 23) dJ0_indexOf_7cf53_4 (by decide) (by decide) ?_
  refine ex_aload_n (pc := 7) dJ0_indexOf_7cf53_7 rfl ?_
  refine ex_strValue (pc := 8) (i := 4) dJ0_indexOf_7cf53_8 (by decide) fl_J0_9 ?_
  refine ex_iload_n (pc := 11) dJ0_indexOf_7cf53_11 rfl ?_
  refine ex_iload_n (pc := 12) dJ0_indexOf_7cf53_12 rfl ?_
  refine ex_aload_n (pc := 13) dJ0_indexOf_7cf53_13 rfl ?_
  refine cx_VS0i (pc := 14) dJ0_indexOf_7cf53_14 lk_J0_505 (by decide) rfl (Nat.le_of_ble_eq_true rfl) (Nat.le_of_ble_eq_true rfl) (by omega) (c_S_len (by decide) (by omega)) (fun h_14 x_14 q_14 => ?_)
  obtain ⟨e_14, f_14⟩ := q_14
  rw [e_14, f_14]
  refine cx_SL4i (pc := 17) dJ0_indexOf_7cf53_17 lk_J0_637 rfl (Nat.le_of_ble_eq_true rfl) (Nat.le_of_ble_eq_true rfl) (by omega) (c_S_ixb4 hc (by omega)) (fun h_17 x_17 q_17 => ?_)
  obtain ⟨e_17, f_17⟩ := q_17
  rw [e_17, f_17]
  refine ex_goto (pc := 20) (tgt := 36) dJ0_indexOf_7cf53_20 (by decide) ?_
  refine ex_ret dJ0_indexOf_7cf53_36 rfl ?_
  exact qi_mk ⟨rfl, rfl⟩
set_option maxHeartbeats 4000000 in
set_option maxRecDepth 100000 in
theorem c_S_ix4 {g : Gl} {d ks : Nat} {h : AH} {c : Nat} (hc : c < 128) (hd : 3 ≤ d) : Ex g mJ0_indexOf_0f7a4 d 0 ks 0 [some (.ref (gK g (1 + 4))), some (.int (nI c))] [] h (qi (fun h' x => h' = h ∧ x = ixL [99, 117] 0 c)) := by
  refine ex_aload_n (pc := 0) dJ0_indexOf_0f7a4_0 rfl ?_
  refine ex_iload_n (pc := 1) dJ0_indexOf_0f7a4_1 rfl ?_
  refine ex_iconst (pc := 2) (v := (nI 0)) dJ0_indexOf_0f7a4_2 (by decide) ?_
  refine cx_VS2i (pc := 3) dJ0_indexOf_0f7a4_3 lk_J0_633 (by decide) rfl (Nat.le_of_ble_eq_true rfl) (Nat.le_of_ble_eq_true rfl) (by omega) (c_S_ixa4 hc (by omega)) (fun h_3 x_3 q_3 => ?_)
  obtain ⟨e_3, f_3⟩ := q_3
  rw [e_3, f_3]
  refine ex_ret dJ0_indexOf_0f7a4_6 rfl ?_
  exact qi_mk ⟨rfl, rfl⟩
set_option maxHeartbeats 4000000 in
set_option maxRecDepth 100000 in
theorem c_S_ixc5 {g : Gl} {d ks : Nat} {h : AH} {c : Nat} (hc : c < 128) : Ex g mJ1_indexOfChar_4cfef d 0 ks 0 [some (.ref (gK g (10 + 5))), some (.int (nI c)), some (.int (nI 0)), some (.int (nI 2)), none, none] [] h (qi (fun h' x => h' = h ∧ x = ixL [116, 99] 0 c)) := by
  refine ex_iload_n (pc := 0) dJ1_indexOfChar_4cfef_0 rfl ?_
  refine ex_i2b (pc := 1) dJ1_indexOfChar_4cfef_1 ?_
  rw [i2b_k c hc]
  refine sx_istore (pc := 2) dJ1_indexOfChar_4cfef_2 rfl (by decide) ?_
  show Ex _ _ _ _ _ _ [_, _, _, _, _, _] _ _ _
  refine ex_iload_n (pc := 4) dJ1_indexOfChar_4cfef_4 rfl ?_
  refine sx_istore (pc := 5) dJ1_indexOfChar_4cfef_5 rfl (by decide) ?_
  show Ex _ _ _ _ _ _ [_, _, _, _, _, _] _ _ _
  refine ex_iload (pc := 7) dJ1_indexOfChar_4cfef_7 rfl ?_
  refine ex_iload_n (pc := 9) dJ1_indexOfChar_4cfef_9 rfl ?_
  refine bx_icmp_ge_f (pc := 10) (tgt := 31) dJ1_indexOfChar_4cfef_10 (by decide) (by decide) ?_
  refine ex_aload_n (pc := 13) dJ1_indexOfChar_4cfef_13 rfl ?_
  refine ex_iload (pc := 14) dJ1_indexOfChar_4cfef_14 rfl ?_
  refine ex_strBald (pc := 16) dJ1_indexOfChar_4cfef_16 (by decide) (by unfold vp_in; decide) ?_
  refine ex_iload (pc := 17) dJ1_indexOfChar_4cfef_17 rfl ?_
  refine ex_icmp_ne (pc := 19) (tgt := 25) dJ1_indexOfChar_4cfef_19 (by decide) (fun c_19 => ?_) (fun c_19 => ?_)
  · skip
    have n0 : ¬ c = 116 := fun q => c_19 (by rw [q]; decide)
    first | refine sx_inc (pc := 25) dJ1_indexOfChar_4cfef_25 rfl rfl (by decide) ?_ | refine sx_iinc (pc := 25) dJ1_indexOfChar_4cfef_25 rfl rfl (by decide) ?_
    show Ex _ _ _ _ _ _ [_, _, _, _, _, _] _ _ _
    refine ex_goto (pc := 28) (tgt := 7) dJ1_indexOfChar_4cfef_28 (by decide) ?_
    refine ex_iload (pc := 7) dJ1_indexOfChar_4cfef_7 rfl ?_
    refine ex_iload_n (pc := 9) dJ1_indexOfChar_4cfef_9 rfl ?_
    refine bx_icmp_ge_f (pc := 10) (tgt := 31) dJ1_indexOfChar_4cfef_10 (by decide) (by decide) ?_
    refine ex_aload_n (pc := 13) dJ1_indexOfChar_4cfef_13 rfl ?_
    refine ex_iload (pc := 14) dJ1_indexOfChar_4cfef_14 rfl ?_
    refine ex_strBald (pc := 16) dJ1_indexOfChar_4cfef_16 (by decide) (by unfold vp_in; decide) ?_
    refine ex_iload (pc := 17) dJ1_indexOfChar_4cfef_17 rfl ?_
    refine ex_icmp_ne (pc := 19) (tgt := 25) dJ1_indexOfChar_4cfef_19 (by decide) (fun c_19 => ?_) (fun c_19 => ?_)
    · skip
      have n1 : ¬ c = 99 := fun q => c_19 (by rw [q]; decide)
      first | refine sx_inc (pc := 25) dJ1_indexOfChar_4cfef_25 rfl rfl (by decide) ?_ | refine sx_iinc (pc := 25) dJ1_indexOfChar_4cfef_25 rfl rfl (by decide) ?_
      show Ex _ _ _ _ _ _ [_, _, _, _, _, _] _ _ _
      refine ex_goto (pc := 28) (tgt := 7) dJ1_indexOfChar_4cfef_28 (by decide) ?_
      refine ex_iload (pc := 7) dJ1_indexOfChar_4cfef_7 rfl ?_
      refine ex_iload_n (pc := 9) dJ1_indexOfChar_4cfef_9 rfl ?_
      refine bx_icmp_ge_t (pc := 10) (tgt := 31) dJ1_indexOfChar_4cfef_10 (by decide) (by decide) ?_
      refine ex_iconst (pc := 31) (v := (-1)) dJ1_indexOfChar_4cfef_31 (by decide) ?_
      refine ex_ret dJ1_indexOfChar_4cfef_32 rfl ?_
      refine qi_mk ⟨rfl, ?_⟩
      rw [ixL, if_neg n0, ixL, if_neg n1, ixL]
    · skip
      have y : c = 99 := by
        have y0 : nI 99 = nI c := Eq.trans (by decide) c_19
        exact ((nI_eq (by omega) (by omega)).mp y0).symm
      refine ex_iload (pc := 22) dJ1_indexOfChar_4cfef_22 rfl ?_
      refine ex_ret dJ1_indexOfChar_4cfef_24 rfl ?_
      refine qi_mk ⟨rfl, ?_⟩
      rw [ixL, if_neg n0, ixL, if_pos y]
  · skip
    have y : c = 116 := by
      have y0 : nI 116 = nI c := Eq.trans (by decide) c_19
      exact ((nI_eq (by omega) (by omega)).mp y0).symm
    refine ex_iload (pc := 22) dJ1_indexOfChar_4cfef_22 rfl ?_
    refine ex_ret dJ1_indexOfChar_4cfef_24 rfl ?_
    refine qi_mk ⟨rfl, ?_⟩
    rw [ixL, if_pos y]
set_option maxHeartbeats 4000000 in
set_option maxRecDepth 100000 in
theorem c_S_ixb5 {g : Gl} {d ks : Nat} {h : AH} {c : Nat} (hc : c < 128) (hd : 1 ≤ d) : Ex g mJ1_indexOf_4cfef d 0 ks 0 [some (.ref (gK g (10 + 5))), some (.int (nI c)), some (.int (nI 0)), some (.int (nI 2))] [] h (qi (fun h' x => h' = h ∧ x = ixL [116, 99] 0 c)) := by
  refine ex_iload_n (pc := 0) dJ1_indexOf_4cfef_0 rfl ?_
  refine cx_SL1i (pc := 1) dJ1_indexOf_4cfef_1 lk_J1_88 rfl (Nat.le_of_ble_eq_true rfl) (Nat.le_of_ble_eq_true rfl) (by omega) (c_S_can (by omega)) (fun h_1 x_1 q_1 => ?_)
  obtain ⟨e_1, f_1⟩ := q_1
  rw [e_1, f_1]
  refine bx_if_ne_t (pc := 4) (tgt := 9) dJ1_indexOf_4cfef_4 (by decide) (by decide) ?_
  refine ex_iload_n (pc := 9) dJ1_indexOf_4cfef_9 rfl ?_
  refine ex_iconst (pc := 10) (v := (nI 0)) dJ1_indexOf_4cfef_10 (by decide) ?_
  refine cx_SL2i (pc := 11) dJ1_indexOf_4cfef_11 lk_J1_92 rfl (Nat.le_of_ble_eq_true rfl) (Nat.le_of_ble_eq_true rfl) (by omega) (c_max _ _) (fun h_11 x_11 q_11 => ?_)
  obtain ⟨e_11, f_11⟩ := q_11
  rw [e_11, f_11]
  rw [show mx32 (nI 0) (nI 0) = nI 0 by decide]
  refine sx_istore_n (pc := 14) dJ1_indexOf_4cfef_14 rfl (by decide) ?_
  show Ex _ _ _ _ _ _ [_, _, _, _] _ _ _
  refine ex_iload_n (pc := 15) dJ1_indexOf_4cfef_15 rfl ?_
  refine ex_aload_n (pc := 16) dJ1_indexOf_4cfef_16 rfl ?_
  refine ex_strBlen (pc := 17) dJ1_indexOf_4cfef_17 (by decide) ?_
  refine cx_SL2i (pc := 18) dJ1_indexOf_4cfef_18 lk_J1_38 rfl (Nat.le_of_ble_eq_true rfl) (Nat.le_of_ble_eq_true rfl) (by omega) (c_min _ _) (fun h_18 x_18 q_18 => ?_)
  obtain ⟨e_18, f_18⟩ := q_18
  rw [e_18, f_18]
  rw [show mn32 (nI 2) (nI (strLen.getD 5 0)) = nI 2 by decide]
  refine sx_istore_n (pc := 21) dJ1_indexOf_4cfef_21 rfl (by decide) ?_
  show Ex _ _ _ _ _ _ [_, _, _, _] _ _ _
  refine ex_iload_n (pc := 22) dJ1_indexOf_4cfef_22 rfl ?_
  refine ex_iload_n (pc := 23) dJ1_indexOf_4cfef_23 rfl ?_
  refine bx_icmp_lt_t (pc := 24) (tgt := 29) dJ1_indexOf_4cfef_24 (by decide) (by decide) ?_
  refine ex_aload_n (pc := 29) dJ1_indexOf_4cfef_29 rfl ?_
  refine ex_iload_n (pc := 30) dJ1_indexOf_4cfef_30 rfl ?_
  refine ex_iload_n (pc := 31) dJ1_indexOf_4cfef_31 rfl ?_
  refine ex_iload_n (pc := 32) dJ1_indexOf_4cfef_32 rfl ?_
  refine cx_SL4i (pc := 33) dJ1_indexOf_4cfef_33 lk_J1_95 rfl (Nat.le_of_ble_eq_true rfl) (Nat.le_of_ble_eq_true rfl) (by omega) (c_S_ixc5 hc) (fun h_33 x_33 q_33 => ?_)
  obtain ⟨e_33, f_33⟩ := q_33
  rw [e_33, f_33]
  refine ex_ret dJ1_indexOf_4cfef_36 rfl ?_
  exact qi_mk ⟨rfl, rfl⟩
set_option maxHeartbeats 4000000 in
set_option maxRecDepth 100000 in
theorem c_S_ixa5 {g : Gl} {d ks : Nat} {h : AH} {c : Nat} (hc : c < 128) (hd : 2 ≤ d) : Ex g mJ0_indexOf_7cf53 d 0 ks 0 [some (.ref (gK g (1 + 5))), some (.int (nI c)), some (.int (nI 0))] [] h (qi (fun h' x => h' = h ∧ x = ixL [116, 99] 0 c)) := by
  refine ex_aload_n (pc := 0) dJ0_indexOf_7cf53_0 rfl ?_
  refine cx_VS0i (pc := 1) dJ0_indexOf_7cf53_1 lk_J0_492 (by decide) rfl (Nat.le_of_ble_eq_true rfl) (Nat.le_of_ble_eq_true rfl) (by omega) (c_S_lat (by decide)) (fun h_1 x_1 q_1 => ?_)
  obtain ⟨e_1, f_1⟩ := q_1
  rw [e_1, f_1]
  refine bx_if_eq_f (pc := 4) (tgt := 23) dJ0_indexOf_7cf53_4 (by decide) (by decide) ?_
  refine ex_aload_n (pc := 7) dJ0_indexOf_7cf53_7 rfl ?_
  refine ex_strValue (pc := 8) (i := 5) dJ0_indexOf_7cf53_8 (by decide) fl_J0_9 ?_
  refine ex_iload_n (pc := 11) dJ0_indexOf_7cf53_11 rfl ?_
  refine ex_iload_n (pc := 12) dJ0_indexOf_7cf53_12 rfl ?_
  refine ex_aload_n (pc := 13) dJ0_indexOf_7cf53_13 rfl ?_
  refine cx_VS0i (pc := 14) dJ0_indexOf_7cf53_14 lk_J0_505 (by decide) rfl (Nat.le_of_ble_eq_true rfl) (Nat.le_of_ble_eq_true rfl) (by omega) (c_S_len (by decide) (by omega)) (fun h_14 x_14 q_14 => ?_)
  obtain ⟨e_14, f_14⟩ := q_14
  rw [e_14, f_14]
  refine cx_SL4i (pc := 17) dJ0_indexOf_7cf53_17 lk_J0_637 rfl (Nat.le_of_ble_eq_true rfl) (Nat.le_of_ble_eq_true rfl) (by omega) (c_S_ixb5 hc (by omega)) (fun h_17 x_17 q_17 => ?_)
  obtain ⟨e_17, f_17⟩ := q_17
  rw [e_17, f_17]
  refine ex_goto (pc := 20) (tgt := 36) dJ0_indexOf_7cf53_20 (by decide) ?_
  refine ex_ret dJ0_indexOf_7cf53_36 rfl ?_
  exact qi_mk ⟨rfl, rfl⟩
set_option maxHeartbeats 4000000 in
set_option maxRecDepth 100000 in
theorem c_S_ix5 {g : Gl} {d ks : Nat} {h : AH} {c : Nat} (hc : c < 128) (hd : 3 ≤ d) : Ex g mJ0_indexOf_0f7a4 d 0 ks 0 [some (.ref (gK g (1 + 5))), some (.int (nI c))] [] h (qi (fun h' x => h' = h ∧ x = ixL [116, 99] 0 c)) := by
  refine ex_aload_n (pc := 0) dJ0_indexOf_0f7a4_0 rfl ?_
  refine ex_iload_n (pc := 1) dJ0_indexOf_0f7a4_1 rfl ?_
  refine ex_iconst (pc := 2) (v := (nI 0)) dJ0_indexOf_0f7a4_2 (by decide) ?_
  refine cx_VS2i (pc := 3) dJ0_indexOf_0f7a4_3 lk_J0_633 (by decide) rfl (Nat.le_of_ble_eq_true rfl) (Nat.le_of_ble_eq_true rfl) (by omega) (c_S_ixa5 hc (by omega)) (fun h_3 x_3 q_3 => ?_)
  obtain ⟨e_3, f_3⟩ := q_3
  rw [e_3, f_3]
  refine ex_ret dJ0_indexOf_0f7a4_6 rfl ?_
  exact qi_mk ⟨rfl, rfl⟩
set_option maxHeartbeats 4000000 in
set_option maxRecDepth 100000 in
theorem c_R_names0 {g : Gl} {d ks : Nat} {h : AH} {r : Nat → Int32} (h40 : h[40]? = some (rdC g r)) (h6 : r 6 = nI 0) : Ex g mX1_namesOfKey d 0 ks 0 [some (.ref (g.1 + 40))] [] h (qr (fun h' x => h' = h ∧ x = .ref (gK g (1 + 3)))) := by
  refine ex_aload_n (pc := 0) dX1_namesOfKey_0 rfl ?_
  refine ex_get (pc := 1) dX1_namesOfKey_1 fl_X1_31 h40 rfl ?_
  refine bx_if_ne_f (pc := 4) (tgt := 12) dX1_namesOfKey_4 (by decide) (by rw [h6]; rfl) ?_
  refine ex_ldcS (pc := 7) (i := 3) dX1_namesOfKey_7 (by decide) rfl ?_
  refine ex_goto (pc := 9) (tgt := 27) dX1_namesOfKey_9 (by decide) ?_
  refine ex_aret dX1_namesOfKey_27 rfl (Or.inr ⟨_, rfl⟩) ?_
  exact qr_mk ⟨rfl, rfl⟩
set_option maxHeartbeats 4000000 in
set_option maxRecDepth 100000 in
theorem c_R_names1 {g : Gl} {d ks : Nat} {h : AH} {r : Nat → Int32} (h40 : h[40]? = some (rdC g r)) (h6 : r 6 = nI 1) : Ex g mX1_namesOfKey d 0 ks 0 [some (.ref (g.1 + 40))] [] h (qr (fun h' x => h' = h ∧ x = .ref (gK g (1 + 4)))) := by
  refine ex_aload_n (pc := 0) dX1_namesOfKey_0 rfl ?_
  refine ex_get (pc := 1) dX1_namesOfKey_1 fl_X1_31 h40 rfl ?_
  refine bx_if_ne_t (pc := 4) (tgt := 12) dX1_namesOfKey_4 (by decide) (by rw [h6]; decide) ?_
  refine ex_aload_n (pc := 12) dX1_namesOfKey_12 rfl ?_
  refine ex_get (pc := 13) dX1_namesOfKey_13 fl_X1_31 h40 rfl ?_
  refine ex_iconst (pc := 16) (v := (nI 1)) dX1_namesOfKey_16 (by decide) ?_
  refine bx_icmp_ne_f (pc := 17) (tgt := 25) dX1_namesOfKey_17 (by decide) (by rw [h6]) ?_
  refine ex_ldcS (pc := 20) (i := 4) dX1_namesOfKey_20 (by decide) rfl ?_
  refine ex_goto (pc := 22) (tgt := 27) dX1_namesOfKey_22 (by decide) ?_
  refine ex_aret dX1_namesOfKey_27 rfl (Or.inr ⟨_, rfl⟩) ?_
  exact qr_mk ⟨rfl, rfl⟩
set_option maxHeartbeats 4000000 in
set_option maxRecDepth 100000 in
theorem c_R_names2 {g : Gl} {d ks : Nat} {h : AH} {r : Nat → Int32} (h40 : h[40]? = some (rdC g r)) (h6 : r 6 = nI 2) : Ex g mX1_namesOfKey d 0 ks 0 [some (.ref (g.1 + 40))] [] h (qr (fun h' x => h' = h ∧ x = .ref (gK g (1 + 5)))) := by
  refine ex_aload_n (pc := 0) dX1_namesOfKey_0 rfl ?_
  refine ex_get (pc := 1) dX1_namesOfKey_1 fl_X1_31 h40 rfl ?_
  refine bx_if_ne_t (pc := 4) (tgt := 12) dX1_namesOfKey_4 (by decide) (by rw [h6]; decide) ?_
  refine ex_aload_n (pc := 12) dX1_namesOfKey_12 rfl ?_
  refine ex_get (pc := 13) dX1_namesOfKey_13 fl_X1_31 h40 rfl ?_
  refine ex_iconst (pc := 16) (v := (nI 1)) dX1_namesOfKey_16 (by decide) ?_
  refine bx_icmp_ne_t (pc := 17) (tgt := 25) dX1_namesOfKey_17 (by decide) (by rw [h6]; decide) ?_
  refine ex_ldcS (pc := 25) (i := 5) dX1_namesOfKey_25 (by decide) rfl ?_
  refine ex_aret dX1_namesOfKey_27 rfl (Or.inr ⟨_, rfl⟩) ?_
  exact qr_mk ⟨rfl, rfl⟩

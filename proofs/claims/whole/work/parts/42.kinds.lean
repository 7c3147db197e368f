/-! of which kind a post is; a post that comes, the class; the next free cell -/
set_option maxHeartbeats 4000000 in
set_option maxRecDepth 100000 in
theorem c_P_isOf_m {g : Gl} {d ks : Nat} {h : AH} {q : Nat} (hd : 1 ≤ d) (wn : Int32) (k : Nat) (hk : k < 6) : Ex g mX0_isOf d 0 ks 7 [some (.ref (g.1 + q)), some (.int wn), some (.int (-1)), some (.int (nI k))] [] h (qi (fun h' r => h' = h ∧ r = 0)) := by
  refine ex_iload_n (pc := 7) dX0_isOf_7 rfl ?_
  refine ex_bipush (pc := 8) (v := (nI 6)) dX0_isOf_8 (by decide) ?_
  refine bx_icmp_ge_f (pc := 10) (tgt := 41) dX0_isOf_10 (by decide) (nI_ge (by omega) (by omega)) ?_
  refine ex_iload_n (pc := 13) dX0_isOf_13 rfl ?_
  refine ex_bipush (pc := 14) (v := (nI 6)) dX0_isOf_14 (by decide) ?_
  refine cx_SN2i (pc := 16) dX0_isOf_16 lk_X0_28 rfl (Nat.le_of_ble_eq_true rfl) (Nat.le_of_ble_eq_true rfl) (by omega) (c_isBelow _ _) (fun h_16 x_16 q_16 => ?_)
  obtain ⟨e_16, f_16⟩ := q_16
  rw [e_16, f_16]
  refine bx_if_eq_t (pc := 19) (tgt := 41) dX0_isOf_19 (by decide) (bI_f (fun z => absurd z.1 (by decide))) ?_
  refine ex_iconst (pc := 41) (v := 0) dX0_isOf_41 (by decide) ?_
  refine ex_zret dX0_isOf_42 rfl (by first | exact Or.inl rfl | exact Or.inr rfl | exact bI_01 _) ?_
  exact qi_mk ⟨rfl, rfl⟩
theorem fab_0 : fAbove (nI 0).toNatClampNeg = (-1) := by decide
theorem isO_no0 {w : Int32} (h : ¬ nI 0 = w) : ¬ isO (nI 0) w = true := by
  intro z
  simp [isO, nI_eq, nI_0] at z h
  have k3 : ¬ (0 : Int32) = nI 3 := by decide
  have k4 : ¬ (0 : Int32) = nI 4 := by decide
  grind
set_option maxHeartbeats 4000000 in
set_option maxRecDepth 100000 in
theorem c_P_isOf_0 {g : Gl} {d ks : Nat} {h : AH} {q : Nat} (hd : 1 ≤ d) (wn : Int32) (k : Nat) (hk : k + 1 < 6) : Ex g mX0_isOf d 0 ks 7 [some (.ref (g.1 + q)), some (.int wn), some (.int (nI 0)), some (.int (nI k))] [] h (qi (fun h' r => h' = h ∧ r = bI (isO (nI 0) wn = true))) := by
  refine ex_iload_n (pc := 7) dX0_isOf_7 rfl ?_
  refine ex_bipush (pc := 8) (v := (nI 6)) dX0_isOf_8 (by decide) ?_
  refine bx_icmp_ge_f (pc := 10) (tgt := 41) dX0_isOf_10 (by decide) (nI_ge (by omega) (by omega)) ?_
  refine ex_iload_n (pc := 13) dX0_isOf_13 rfl ?_
  refine ex_bipush (pc := 14) (v := (nI 6)) dX0_isOf_14 (by decide) ?_
  refine cx_SN2i (pc := 16) dX0_isOf_16 lk_X0_28 rfl (Nat.le_of_ble_eq_true rfl) (Nat.le_of_ble_eq_true rfl) (by omega) (c_isBelow _ _) (fun h_16 x_16 q_16 => ?_)
  obtain ⟨e_16, f_16⟩ := q_16
  rw [e_16, f_16]
  refine bx_if_eq_f (pc := 19) (tgt := 41) dX0_isOf_19 (by decide) (by rw [bI_t (by decide)]; decide) ?_
  refine ex_iload_n (pc := 22) dX0_isOf_22 rfl ?_
  refine ex_iload_n (pc := 23) dX0_isOf_23 rfl ?_
  refine ex_icmp_ne (pc := 24) (tgt := 29) dX0_isOf_24 (by decide) (fun c_24 => ?_) (fun c_24 => ?_)
  · skip
    refine ex_above (pc := 29) dX0_isOf_29 rfl ?_
    refine ex_iload_n (pc := 32) dX0_isOf_32 rfl ?_
    refine ex_aboveLd (pc := 33) dX0_isOf_33 (vp_in_nI (by omega) (by omega)) ?_
    rw [fab_0]
    refine sx_istore_n (pc := 34) dX0_isOf_34 rfl (by decide) ?_
    show Ex _ _ _ _ _ _ [_, _, _, _] _ _ _
    first | refine sx_inc (pc := 35) dX0_isOf_35 rfl rfl (by decide) ?_ | refine sx_iinc (pc := 35) dX0_isOf_35 rfl rfl (by decide) ?_
    show Ex _ _ _ _ _ _ [_, _, _, _] _ _ _
    refine ex_goto (pc := 38) (tgt := 7) dX0_isOf_38 (by decide) ?_
    refine (c_P_isOf_m hd wn (k + 1) (by omega)).mono (fun h' r z => ?_)
    obtain ⟨x, rfl, rfl, rfl⟩ := z
    refine qi_mk ⟨rfl, ?_⟩
    rw [bI_f]
    intro z
    exact isO_no0 c_24 z
  · skip
    refine ex_iconst (pc := 27) (v := 1) dX0_isOf_27 (by decide) ?_
    refine ex_zret dX0_isOf_28 rfl (by first | exact Or.inl rfl | exact Or.inr rfl | exact bI_01 _) ?_
    refine qi_mk ⟨rfl, ?_⟩
    rw [bI_t (by rw [← c_24]; unfold isO; simp)]
theorem fab_1 : fAbove (nI 1).toNatClampNeg = (nI 0) := by decide
theorem isO_up1 {w : Int32} (h : ¬ nI 1 = w) : (isO (nI 0) w = true) ↔ (isO (nI 1) w = true) := by
  simp [isO, nI_eq, nI_0] at *
  have k3 : ¬ (0 : Int32) = nI 3 := by decide
  have k4 : ¬ (0 : Int32) = nI 4 := by decide
  grind
set_option maxHeartbeats 4000000 in
set_option maxRecDepth 100000 in
theorem c_P_isOf_1 {g : Gl} {d ks : Nat} {h : AH} {q : Nat} (hd : 1 ≤ d) (wn : Int32) (k : Nat) (hk : k + 2 < 6) : Ex g mX0_isOf d 0 ks 7 [some (.ref (g.1 + q)), some (.int wn), some (.int (nI 1)), some (.int (nI k))] [] h (qi (fun h' r => h' = h ∧ r = bI (isO (nI 1) wn = true))) := by
  refine ex_iload_n (pc := 7) dX0_isOf_7 rfl ?_
  refine ex_bipush (pc := 8) (v := (nI 6)) dX0_isOf_8 (by decide) ?_
  refine bx_icmp_ge_f (pc := 10) (tgt := 41) dX0_isOf_10 (by decide) (nI_ge (by omega) (by omega)) ?_
  refine ex_iload_n (pc := 13) dX0_isOf_13 rfl ?_
  refine ex_bipush (pc := 14) (v := (nI 6)) dX0_isOf_14 (by decide) ?_
  refine cx_SN2i (pc := 16) dX0_isOf_16 lk_X0_28 rfl (Nat.le_of_ble_eq_true rfl) (Nat.le_of_ble_eq_true rfl) (by omega) (c_isBelow _ _) (fun h_16 x_16 q_16 => ?_)
  obtain ⟨e_16, f_16⟩ := q_16
  rw [e_16, f_16]
  refine bx_if_eq_f (pc := 19) (tgt := 41) dX0_isOf_19 (by decide) (by rw [bI_t (by decide)]; decide) ?_
  refine ex_iload_n (pc := 22) dX0_isOf_22 rfl ?_
  refine ex_iload_n (pc := 23) dX0_isOf_23 rfl ?_
  refine ex_icmp_ne (pc := 24) (tgt := 29) dX0_isOf_24 (by decide) (fun c_24 => ?_) (fun c_24 => ?_)
  · skip
    refine ex_above (pc := 29) dX0_isOf_29 rfl ?_
    refine ex_iload_n (pc := 32) dX0_isOf_32 rfl ?_
    refine ex_aboveLd (pc := 33) dX0_isOf_33 (vp_in_nI (by omega) (by omega)) ?_
    rw [fab_1]
    refine sx_istore_n (pc := 34) dX0_isOf_34 rfl (by decide) ?_
    show Ex _ _ _ _ _ _ [_, _, _, _] _ _ _
    first | refine sx_inc (pc := 35) dX0_isOf_35 rfl rfl (by decide) ?_ | refine sx_iinc (pc := 35) dX0_isOf_35 rfl rfl (by decide) ?_
    show Ex _ _ _ _ _ _ [_, _, _, _] _ _ _
    refine ex_goto (pc := 38) (tgt := 7) dX0_isOf_38 (by decide) ?_
    refine (c_P_isOf_0 hd wn (k + 1) (by omega)).mono (fun h' r z => ?_)
    obtain ⟨x, rfl, rfl, rfl⟩ := z
    exact qi_mk ⟨rfl, bI_eq (isO_up1 c_24)⟩
  · skip
    refine ex_iconst (pc := 27) (v := 1) dX0_isOf_27 (by decide) ?_
    refine ex_zret dX0_isOf_28 rfl (by first | exact Or.inl rfl | exact Or.inr rfl | exact bI_01 _) ?_
    refine qi_mk ⟨rfl, ?_⟩
    rw [bI_t (by rw [← c_24]; unfold isO; simp)]
theorem fab_2 : fAbove (nI 2).toNatClampNeg = (nI 0) := by decide
theorem isO_up2 {w : Int32} (h : ¬ nI 2 = w) : (isO (nI 0) w = true) ↔ (isO (nI 2) w = true) := by
  simp [isO, nI_eq, nI_0] at *
  have k3 : ¬ (0 : Int32) = nI 3 := by decide
  have k4 : ¬ (0 : Int32) = nI 4 := by decide
  grind
set_option maxHeartbeats 4000000 in
set_option maxRecDepth 100000 in
theorem c_P_isOf_2 {g : Gl} {d ks : Nat} {h : AH} {q : Nat} (hd : 1 ≤ d) (wn : Int32) (k : Nat) (hk : k + 2 < 6) : Ex g mX0_isOf d 0 ks 7 [some (.ref (g.1 + q)), some (.int wn), some (.int (nI 2)), some (.int (nI k))] [] h (qi (fun h' r => h' = h ∧ r = bI (isO (nI 2) wn = true))) := by
  refine ex_iload_n (pc := 7) dX0_isOf_7 rfl ?_
  refine ex_bipush (pc := 8) (v := (nI 6)) dX0_isOf_8 (by decide) ?_
  refine bx_icmp_ge_f (pc := 10) (tgt := 41) dX0_isOf_10 (by decide) (nI_ge (by omega) (by omega)) ?_
  refine ex_iload_n (pc := 13) dX0_isOf_13 rfl ?_
  refine ex_bipush (pc := 14) (v := (nI 6)) dX0_isOf_14 (by decide) ?_
  refine cx_SN2i (pc := 16) dX0_isOf_16 lk_X0_28 rfl (Nat.le_of_ble_eq_true rfl) (Nat.le_of_ble_eq_true rfl) (by omega) (c_isBelow _ _) (fun h_16 x_16 q_16 => ?_)
  obtain ⟨e_16, f_16⟩ := q_16
  rw [e_16, f_16]
  refine bx_if_eq_f (pc := 19) (tgt := 41) dX0_isOf_19 (by decide) (by rw [bI_t (by decide)]; decide) ?_
  refine ex_iload_n (pc := 22) dX0_isOf_22 rfl ?_
  refine ex_iload_n (pc := 23) dX0_isOf_23 rfl ?_
  refine ex_icmp_ne (pc := 24) (tgt := 29) dX0_isOf_24 (by decide) (fun c_24 => ?_) (fun c_24 => ?_)
  · skip
    refine ex_above (pc := 29) dX0_isOf_29 rfl ?_
    refine ex_iload_n (pc := 32) dX0_isOf_32 rfl ?_
    refine ex_aboveLd (pc := 33) dX0_isOf_33 (vp_in_nI (by omega) (by omega)) ?_
    rw [fab_2]
    refine sx_istore_n (pc := 34) dX0_isOf_34 rfl (by decide) ?_
    show Ex _ _ _ _ _ _ [_, _, _, _] _ _ _
    first | refine sx_inc (pc := 35) dX0_isOf_35 rfl rfl (by decide) ?_ | refine sx_iinc (pc := 35) dX0_isOf_35 rfl rfl (by decide) ?_
    show Ex _ _ _ _ _ _ [_, _, _, _] _ _ _
    refine ex_goto (pc := 38) (tgt := 7) dX0_isOf_38 (by decide) ?_
    refine (c_P_isOf_0 hd wn (k + 1) (by omega)).mono (fun h' r z => ?_)
    obtain ⟨x, rfl, rfl, rfl⟩ := z
    exact qi_mk ⟨rfl, bI_eq (isO_up2 c_24)⟩
  · skip
    refine ex_iconst (pc := 27) (v := 1) dX0_isOf_27 (by decide) ?_
    refine ex_zret dX0_isOf_28 rfl (by first | exact Or.inl rfl | exact Or.inr rfl | exact bI_01 _) ?_
    refine qi_mk ⟨rfl, ?_⟩
    rw [bI_t (by rw [← c_24]; unfold isO; simp)]
theorem fab_5 : fAbove (nI 5).toNatClampNeg = (nI 0) := by decide
theorem isO_up5 {w : Int32} (h : ¬ nI 5 = w) : (isO (nI 0) w = true) ↔ (isO (nI 5) w = true) := by
  simp [isO, nI_eq, nI_0] at *
  have k3 : ¬ (0 : Int32) = nI 3 := by decide
  have k4 : ¬ (0 : Int32) = nI 4 := by decide
  grind
set_option maxHeartbeats 4000000 in
set_option maxRecDepth 100000 in
theorem c_P_isOf_5 {g : Gl} {d ks : Nat} {h : AH} {q : Nat} (hd : 1 ≤ d) (wn : Int32) (k : Nat) (hk : k + 2 < 6) : Ex g mX0_isOf d 0 ks 7 [some (.ref (g.1 + q)), some (.int wn), some (.int (nI 5)), some (.int (nI k))] [] h (qi (fun h' r => h' = h ∧ r = bI (isO (nI 5) wn = true))) := by
  refine ex_iload_n (pc := 7) dX0_isOf_7 rfl ?_
  refine ex_bipush (pc := 8) (v := (nI 6)) dX0_isOf_8 (by decide) ?_
  refine bx_icmp_ge_f (pc := 10) (tgt := 41) dX0_isOf_10 (by decide) (nI_ge (by omega) (by omega)) ?_
  refine ex_iload_n (pc := 13) dX0_isOf_13 rfl ?_
  refine ex_bipush (pc := 14) (v := (nI 6)) dX0_isOf_14 (by decide) ?_
  refine cx_SN2i (pc := 16) dX0_isOf_16 lk_X0_28 rfl (Nat.le_of_ble_eq_true rfl) (Nat.le_of_ble_eq_true rfl) (by omega) (c_isBelow _ _) (fun h_16 x_16 q_16 => ?_)
  obtain ⟨e_16, f_16⟩ := q_16
  rw [e_16, f_16]
  refine bx_if_eq_f (pc := 19) (tgt := 41) dX0_isOf_19 (by decide) (by rw [bI_t (by decide)]; decide) ?_
  refine ex_iload_n (pc := 22) dX0_isOf_22 rfl ?_
  refine ex_iload_n (pc := 23) dX0_isOf_23 rfl ?_
  refine ex_icmp_ne (pc := 24) (tgt := 29) dX0_isOf_24 (by decide) (fun c_24 => ?_) (fun c_24 => ?_)
  · skip
    refine ex_above (pc := 29) dX0_isOf_29 rfl ?_
    refine ex_iload_n (pc := 32) dX0_isOf_32 rfl ?_
    refine ex_aboveLd (pc := 33) dX0_isOf_33 (vp_in_nI (by omega) (by omega)) ?_
    rw [fab_5]
    refine sx_istore_n (pc := 34) dX0_isOf_34 rfl (by decide) ?_
    show Ex _ _ _ _ _ _ [_, _, _, _] _ _ _
    first | refine sx_inc (pc := 35) dX0_isOf_35 rfl rfl (by decide) ?_ | refine sx_iinc (pc := 35) dX0_isOf_35 rfl rfl (by decide) ?_
    show Ex _ _ _ _ _ _ [_, _, _, _] _ _ _
    refine ex_goto (pc := 38) (tgt := 7) dX0_isOf_38 (by decide) ?_
    refine (c_P_isOf_0 hd wn (k + 1) (by omega)).mono (fun h' r z => ?_)
    obtain ⟨x, rfl, rfl, rfl⟩ := z
    exact qi_mk ⟨rfl, bI_eq (isO_up5 c_24)⟩
  · skip
    refine ex_iconst (pc := 27) (v := 1) dX0_isOf_27 (by decide) ?_
    refine ex_zret dX0_isOf_28 rfl (by first | exact Or.inl rfl | exact Or.inr rfl | exact bI_01 _) ?_
    refine qi_mk ⟨rfl, ?_⟩
    rw [bI_t (by rw [← c_24]; unfold isO; simp)]
theorem fab_3 : fAbove (nI 3).toNatClampNeg = (nI 1) := by decide
theorem isO_up3 {w : Int32} (h : ¬ nI 3 = w) : (isO (nI 1) w = true) ↔ (isO (nI 3) w = true) := by
  simp [isO, nI_eq, nI_0] at *
  have k3 : ¬ (0 : Int32) = nI 3 := by decide
  have k4 : ¬ (0 : Int32) = nI 4 := by decide
  grind
set_option maxHeartbeats 4000000 in
set_option maxRecDepth 100000 in
theorem c_P_isOf_3 {g : Gl} {d ks : Nat} {h : AH} {q : Nat} (hd : 1 ≤ d) (wn : Int32) (k : Nat) (hk : k + 3 < 6) : Ex g mX0_isOf d 0 ks 7 [some (.ref (g.1 + q)), some (.int wn), some (.int (nI 3)), some (.int (nI k))] [] h (qi (fun h' r => h' = h ∧ r = bI (isO (nI 3) wn = true))) := by
  refine ex_iload_n (pc := 7) dX0_isOf_7 rfl ?_
  refine ex_bipush (pc := 8) (v := (nI 6)) dX0_isOf_8 (by decide) ?_
  refine bx_icmp_ge_f (pc := 10) (tgt := 41) dX0_isOf_10 (by decide) (nI_ge (by omega) (by omega)) ?_
  refine ex_iload_n (pc := 13) dX0_isOf_13 rfl ?_
  refine ex_bipush (pc := 14) (v := (nI 6)) dX0_isOf_14 (by decide) ?_
  refine cx_SN2i (pc := 16) dX0_isOf_16 lk_X0_28 rfl (Nat.le_of_ble_eq_true rfl) (Nat.le_of_ble_eq_true rfl) (by omega) (c_isBelow _ _) (fun h_16 x_16 q_16 => ?_)
  obtain ⟨e_16, f_16⟩ := q_16
  rw [e_16, f_16]
  refine bx_if_eq_f (pc := 19) (tgt := 41) dX0_isOf_19 (by decide) (by rw [bI_t (by decide)]; decide) ?_
  refine ex_iload_n (pc := 22) dX0_isOf_22 rfl ?_
  refine ex_iload_n (pc := 23) dX0_isOf_23 rfl ?_
  refine ex_icmp_ne (pc := 24) (tgt := 29) dX0_isOf_24 (by decide) (fun c_24 => ?_) (fun c_24 => ?_)
  · skip
    refine ex_above (pc := 29) dX0_isOf_29 rfl ?_
    refine ex_iload_n (pc := 32) dX0_isOf_32 rfl ?_
    refine ex_aboveLd (pc := 33) dX0_isOf_33 (vp_in_nI (by omega) (by omega)) ?_
    rw [fab_3]
    refine sx_istore_n (pc := 34) dX0_isOf_34 rfl (by decide) ?_
    show Ex _ _ _ _ _ _ [_, _, _, _] _ _ _
    first | refine sx_inc (pc := 35) dX0_isOf_35 rfl rfl (by decide) ?_ | refine sx_iinc (pc := 35) dX0_isOf_35 rfl rfl (by decide) ?_
    show Ex _ _ _ _ _ _ [_, _, _, _] _ _ _
    refine ex_goto (pc := 38) (tgt := 7) dX0_isOf_38 (by decide) ?_
    refine (c_P_isOf_1 hd wn (k + 1) (by omega)).mono (fun h' r z => ?_)
    obtain ⟨x, rfl, rfl, rfl⟩ := z
    exact qi_mk ⟨rfl, bI_eq (isO_up3 c_24)⟩
  · skip
    refine ex_iconst (pc := 27) (v := 1) dX0_isOf_27 (by decide) ?_
    refine ex_zret dX0_isOf_28 rfl (by first | exact Or.inl rfl | exact Or.inr rfl | exact bI_01 _) ?_
    refine qi_mk ⟨rfl, ?_⟩
    rw [bI_t (by rw [← c_24]; unfold isO; simp)]
theorem fab_4 : fAbove (nI 4).toNatClampNeg = (nI 2) := by decide
theorem isO_up4 {w : Int32} (h : ¬ nI 4 = w) : (isO (nI 2) w = true) ↔ (isO (nI 4) w = true) := by
  simp [isO, nI_eq, nI_0] at *
  have k3 : ¬ (0 : Int32) = nI 3 := by decide
  have k4 : ¬ (0 : Int32) = nI 4 := by decide
  grind
set_option maxHeartbeats 4000000 in
set_option maxRecDepth 100000 in
theorem c_P_isOf_4 {g : Gl} {d ks : Nat} {h : AH} {q : Nat} (hd : 1 ≤ d) (wn : Int32) (k : Nat) (hk : k + 3 < 6) : Ex g mX0_isOf d 0 ks 7 [some (.ref (g.1 + q)), some (.int wn), some (.int (nI 4)), some (.int (nI k))] [] h (qi (fun h' r => h' = h ∧ r = bI (isO (nI 4) wn = true))) := by
  refine ex_iload_n (pc := 7) dX0_isOf_7 rfl ?_
  refine ex_bipush (pc := 8) (v := (nI 6)) dX0_isOf_8 (by decide) ?_
  refine bx_icmp_ge_f (pc := 10) (tgt := 41) dX0_isOf_10 (by decide) (nI_ge (by omega) (by omega)) ?_
  refine ex_iload_n (pc := 13) dX0_isOf_13 rfl ?_
  refine ex_bipush (pc := 14) (v := (nI 6)) dX0_isOf_14 (by decide) ?_
  refine cx_SN2i (pc := 16) dX0_isOf_16 lk_X0_28 rfl (Nat.le_of_ble_eq_true rfl) (Nat.le_of_ble_eq_true rfl) (by omega) (c_isBelow _ _) (fun h_16 x_16 q_16 => ?_)
  obtain ⟨e_16, f_16⟩ := q_16
  rw [e_16, f_16]
  refine bx_if_eq_f (pc := 19) (tgt := 41) dX0_isOf_19 (by decide) (by rw [bI_t (by decide)]; decide) ?_
  refine ex_iload_n (pc := 22) dX0_isOf_22 rfl ?_
  refine ex_iload_n (pc := 23) dX0_isOf_23 rfl ?_
  refine ex_icmp_ne (pc := 24) (tgt := 29) dX0_isOf_24 (by decide) (fun c_24 => ?_) (fun c_24 => ?_)
  · skip
    refine ex_above (pc := 29) dX0_isOf_29 rfl ?_
    refine ex_iload_n (pc := 32) dX0_isOf_32 rfl ?_
    refine ex_aboveLd (pc := 33) dX0_isOf_33 (vp_in_nI (by omega) (by omega)) ?_
    rw [fab_4]
    refine sx_istore_n (pc := 34) dX0_isOf_34 rfl (by decide) ?_
    show Ex _ _ _ _ _ _ [_, _, _, _] _ _ _
    first | refine sx_inc (pc := 35) dX0_isOf_35 rfl rfl (by decide) ?_ | refine sx_iinc (pc := 35) dX0_isOf_35 rfl rfl (by decide) ?_
    show Ex _ _ _ _ _ _ [_, _, _, _] _ _ _
    refine ex_goto (pc := 38) (tgt := 7) dX0_isOf_38 (by decide) ?_
    refine (c_P_isOf_2 hd wn (k + 1) (by omega)).mono (fun h' r z => ?_)
    obtain ⟨x, rfl, rfl, rfl⟩ := z
    exact qi_mk ⟨rfl, bI_eq (isO_up4 c_24)⟩
  · skip
    refine ex_iconst (pc := 27) (v := 1) dX0_isOf_27 (by decide) ?_
    refine ex_zret dX0_isOf_28 rfl (by first | exact Or.inl rfl | exact Or.inr rfl | exact bI_01 _) ?_
    refine qi_mk ⟨rfl, ?_⟩
    rw [bI_t (by rw [← c_24]; unfold isO; simp)]
set_option maxHeartbeats 4000000 in
set_option maxRecDepth 100000 in
theorem c_P_isOf {g : Gl} {d ks : Nat} {h : AH} {q κ : Nat} {ce si ti : Int32} (he : h[q]? = some (po (nI κ) ce si ti)) (hκ : κ < 6) (hd : 1 ≤ d) (wn : Int32) : Ex g mX0_isOf d 0 ks 0 [some (.ref (g.1 + q)), some (.int wn), none, none] [] h (qi (fun h' r => h' = h ∧ r = bI (isO (nI κ) wn = true))) := by
  refine ex_aload_n (pc := 0) dX0_isOf_0 rfl ?_
  refine ex_get (pc := 1) dX0_isOf_1 fl_X0_9 he rfl ?_
  refine sx_istore_n (pc := 4) dX0_isOf_4 rfl (by decide) ?_
  show Ex _ _ _ _ _ _ [_, _, _, _] _ _ _
  refine ex_iconst (pc := 5) (v := (nI 0)) dX0_isOf_5 (by decide) ?_
  refine sx_istore_n (pc := 6) dX0_isOf_6 rfl (by decide) ?_
  show Ex _ _ _ _ _ _ [_, _, _, _] _ _ _
  rcases (show κ = 0 ∨ κ = 1 ∨ κ = 2 ∨ κ = 3 ∨ κ = 4 ∨ κ = 5 by omega) with rfl | rfl | rfl | rfl | rfl | rfl
  · exact c_P_isOf_0 hd wn 0 (by omega)
  · exact c_P_isOf_1 hd wn 0 (by omega)
  · exact c_P_isOf_2 hd wn 0 (by omega)
  · exact c_P_isOf_3 hd wn 0 (by omega)
  · exact c_P_isOf_4 hd wn 0 (by omega)
  · exact c_P_isOf_5 hd wn 0 (by omega)
set_option maxHeartbeats 4000000 in
set_option maxRecDepth 100000 in
theorem c_P_becomeAs {g : Gl} {d ks : Nat} {h : AH} {q q2 : Nat} {kd ce si ti a1 a2 a3 a4 : Int32} (he : h[q]? = some (po kd ce si ti)) (h2 : h[q2]? = some (po a1 a2 a3 a4)) (hd : 1 ≤ d) : Ex g mX0_becomeAs d 0 ks 0 [some (.ref (g.1 + q)), some (.ref (g.1 + q2))] [] h (qv (fun h' => h' = h.set q (po a1 a2 a3 a4))) := by
  refine ex_aload_n (pc := 0) dX0_becomeAs_0 rfl ?_
  refine ex_aload_n (pc := 1) dX0_becomeAs_1 rfl ?_
  refine ex_get (pc := 2) dX0_becomeAs_2 fl_X0_9 h2 rfl ?_
  refine ex_aload_n (pc := 5) dX0_becomeAs_5 rfl ?_
  refine ex_get (pc := 6) dX0_becomeAs_6 fl_X0_15 h2 rfl ?_
  refine ex_aload_n (pc := 9) dX0_becomeAs_9 rfl ?_
  refine ex_get (pc := 10) dX0_becomeAs_10 fl_X0_18 h2 rfl ?_
  refine ex_aload_n (pc := 13) dX0_becomeAs_13 rfl ?_
  refine ex_get (pc := 14) dX0_becomeAs_14 fl_X0_21 h2 rfl ?_
  refine cx_VL4v (pc := 17) dX0_becomeAs_17 lk_X0_24 he rfl (Nat.le_of_ble_eq_true rfl) (Nat.le_of_ble_eq_true rfl) (by omega) (c_P_become he _ _ _ _) (fun h_17 q_17 => ?_)
  rw [q_17]
  refine ex_vret dX0_becomeAs_20 rfl ?_
  exact qv_mk rfl
/-- the first free cell from c on, round, k tries -/
def nfF (f : Nat → Bool) : Nat → Nat → Option Nat
  | 0, _ => none
  | m + 1, c => if f c then some c else nfF f m ((c + 1) % 48)
theorem nfF_lt {f : Nat → Bool} : ∀ {m c j : Nat}, c < 48 → nfF f m c = some j → j < 48 := by
  intro m
  induction m with
  | zero => intro c j _ h; cases h
  | succ m ih =>
    intro c j hc h
    rw [nfF] at h
    by_cases hf : f c = true
    · rw [if_pos hf] at h; cases h; exact hc
    · rw [if_neg hf] at h; exact ih (Nat.mod_lt _ (by omega)) h
set_option maxHeartbeats 4000000 in
set_option maxRecDepth 100000 in
theorem c_M_nextFree_l {g : Gl} {d ks : Nat} {h : AH} {z s : Nat → Int32} (hM : Ms g h z s) {n : Nat} (hn : s 0 = nI n) (hn8 : n ≤ 8) (hd : 3 ≤ d) (a : Int32) : ∀ (m k c : Nat), c < 48 → k + m = 48 → Ex g mX7_nextFree d 0 ks 4 [some (.ref (g.1 + 75)), some (.int a), some (.int (nI c)), some (.int (nI k))] [] h (qi (fun h' r => h' = h ∧ r = oN (-1) (nfF (fre s n) (m + 1) c))) := by
  intro m
  induction m with
  | zero =>
    intro k c hc hk
    refine ex_iload_n (pc := 4) dX7_nextFree_4 rfl ?_
    refine ex_bipush (pc := 5) (v := (nI 48)) dX7_nextFree_5 (by decide) ?_
    refine bx_icmp_ge_t (pc := 7) (tgt := 31) dX7_nextFree_7 (by decide) (by rw [show k = 48 by omega]; exact Int32.le_refl _) ?_
    refine ex_aload_n (pc := 31) dX7_nextFree_31 rfl ?_
    refine ex_iload_n (pc := 32) dX7_nextFree_32 rfl ?_
    refine cx_VL1i (pc := 33) dX7_nextFree_33 lk_X7_162 hM.1 rfl (Nat.le_of_ble_eq_true rfl) (Nat.le_of_ble_eq_true rfl) (by omega) (c_M_isFree hM hn hn8 (by omega) hc) (fun h_33 x_33 q_33 => ?_)
    obtain ⟨e_33, rfl⟩ := q_33
    rw [e_33]
    refine ex_if_eq (pc := 36) (tgt := 43) dX7_nextFree_36 (by decide) (fun c_36 => ?_) (fun c_36 => ?_)
    · skip
      refine ex_iconst (pc := 43) (v := (-1)) dX7_nextFree_43 (by decide) ?_
      refine ex_ret dX7_nextFree_44 rfl ?_
      refine qi_mk ⟨rfl, ?_⟩
      rw [nfF]
      first
      | (rw [if_neg (bI_0.mp c_36)]; rfl)
      | (rw [if_pos (Decidable.not_not.mp (fun q => c_36 (bI_f q)))]; rfl)
    · skip
      refine ex_iload_n (pc := 39) dX7_nextFree_39 rfl ?_
      refine ex_goto (pc := 40) (tgt := 44) dX7_nextFree_40 (by decide) ?_
      refine ex_ret dX7_nextFree_44 rfl ?_
      refine qi_mk ⟨rfl, ?_⟩
      rw [nfF]
      first
      | (rw [if_neg (bI_0.mp c_36)]; rfl)
      | (rw [if_pos (Decidable.not_not.mp (fun q => c_36 (bI_f q)))]; rfl)
  | succ m ih =>
    intro k c hc hk
    refine ex_iload_n (pc := 4) dX7_nextFree_4 rfl ?_
    refine ex_bipush (pc := 5) (v := (nI 48)) dX7_nextFree_5 (by decide) ?_
    refine bx_icmp_ge_f (pc := 7) (tgt := 31) dX7_nextFree_7 (by decide) (nI_ge (by omega) (by omega)) ?_
    refine ex_aload_n (pc := 10) dX7_nextFree_10 rfl ?_
    refine ex_iload_n (pc := 11) dX7_nextFree_11 rfl ?_
    refine cx_VL1i (pc := 12) dX7_nextFree_12 lk_X7_162 hM.1 rfl (Nat.le_of_ble_eq_true rfl) (Nat.le_of_ble_eq_true rfl) (by omega) (c_M_isFree hM hn hn8 (by omega) hc) (fun h_12 x_12 q_12 => ?_)
    obtain ⟨e_12, rfl⟩ := q_12
    rw [e_12]
    refine ex_if_ne (pc := 15) (tgt := 31) dX7_nextFree_15 (by decide) (fun c_15 => ?_) (fun c_15 => ?_)
    · skip
      refine ex_aload_n (pc := 31) dX7_nextFree_31 rfl ?_
      refine ex_iload_n (pc := 32) dX7_nextFree_32 rfl ?_
      refine cx_VL1i (pc := 33) dX7_nextFree_33 lk_X7_162 hM.1 rfl (Nat.le_of_ble_eq_true rfl) (Nat.le_of_ble_eq_true rfl) (by omega) (c_M_isFree hM hn hn8 (by omega) hc) (fun h_33 x_33 q_33 => ?_)
      obtain ⟨e_33, rfl⟩ := q_33
      rw [e_33]
      refine bx_if_eq_f (pc := 36) (tgt := 43) dX7_nextFree_36 (by decide) (c_15) ?_
      refine ex_iload_n (pc := 39) dX7_nextFree_39 rfl ?_
      refine ex_goto (pc := 40) (tgt := 44) dX7_nextFree_40 (by decide) ?_
      refine ex_ret dX7_nextFree_44 rfl ?_
      refine qi_mk ⟨rfl, ?_⟩
      rw [nfF, if_pos (Decidable.not_not.mp (fun q => c_15 (bI_f q)))]
      rfl
    · skip
      refine ex_iload_n (pc := 18) dX7_nextFree_18 rfl ?_
      refine ex_iconst (pc := 19) (v := (nI 1)) dX7_nextFree_19 (by decide) ?_
      refine ex_iadd (pc := 20) dX7_nextFree_20 ?_
      refine ex_bipush (pc := 21) (v := (nI 48)) dX7_nextFree_21 (by decide) ?_
      refine ex_irem (pc := 23) dX7_nextFree_23 (by decide) ?_
      rw [nI_add, nI_rem (by omega) (by omega) (by omega)]
      refine sx_istore_n (pc := 24) dX7_nextFree_24 rfl (by decide) ?_
      show Ex _ _ _ _ _ _ [_, _, _, _] _ _ _
      first | refine sx_inc (pc := 25) dX7_nextFree_25 rfl rfl (by decide) ?_ | refine sx_iinc (pc := 25) dX7_nextFree_25 rfl rfl (by decide) ?_
      show Ex _ _ _ _ _ _ [_, _, _, _] _ _ _
      refine ex_goto (pc := 28) (tgt := 4) dX7_nextFree_28 (by decide) ?_
      refine (ih (k + 1) ((c + 1) % 48) (Nat.mod_lt _ (by omega)) (by omega)).mono (fun h' r z => ?_)
      obtain ⟨x, rfl, rfl, rfl⟩ := z
      refine qi_mk ⟨rfl, ?_⟩
      rw [show nfF (fre s n) (m + 1 + 1) c = if (fre s n) c then some c else nfF (fre s n) (m + 1) ((c + 1) % 48) from rfl, if_neg (bI_0.mp c_15)]
set_option maxHeartbeats 4000000 in
set_option maxRecDepth 100000 in
theorem c_M_nextFree {g : Gl} {d ks : Nat} {h : AH} {z s : Nat → Int32} (hM : Ms g h z s) {n : Nat} (hn : s 0 = nI n) (hn8 : n ≤ 8) (hd : 3 ≤ d) {c : Nat} (hc : c < 48) : Ex g mX7_nextFree d 0 ks 0 [some (.ref (g.1 + 75)), some (.int (nI c)), none, none] [] h (qi (fun h' r => h' = h ∧ r = oN (-1) (nfF (fre s n) 49 c))) := by
  refine ex_iload_n (pc := 0) dX7_nextFree_0 rfl ?_
  refine sx_istore_n (pc := 1) dX7_nextFree_1 rfl (by decide) ?_
  show Ex _ _ _ _ _ _ [_, _, _, _] _ _ _
  refine ex_iconst (pc := 2) (v := (nI 0)) dX7_nextFree_2 (by decide) ?_
  refine sx_istore_n (pc := 3) dX7_nextFree_3 rfl (by decide) ?_
  show Ex _ _ _ _ _ _ [_, _, _, _] _ _ _
  exact c_M_nextFree_l hM hn hn8 hd _ 48 0 c hc (by omega)

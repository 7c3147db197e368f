/-! the reference: blind cells, worth, a post that comes, walls, what a room shows -/
set_option maxHeartbeats 4000000 in
set_option maxRecDepth 100000 in
theorem c_M_worth {g : Gl} {d ks : Nat} {h : AH} {z s : Nat → Int32} (hM : Ms g h z s) (hd : 1 ≤ d) {k : Nat} (hk : k < 8) : Ex g mX7_worth d 0 ks 0 [some (.ref (g.1 + 75)), some (.int (nI k)), none] [] h (qi (fun h' r => h' = h ∧ r = wrt (s (10 + 4 * k + 0)) (s (10 + 4 * k + 3)))) := by
  refine ex_aload_n (pc := 0) dX7_worth_0 rfl ?_
  refine ex_iload_n (pc := 1) dX7_worth_1 rfl ?_
  refine ex_iconst (pc := 2) (v := (nI 3)) dX7_worth_2 (by decide) ?_
  refine cx_VL2i (pc := 3) dX7_worth_3 lk_X7_76 hM.1 rfl (Nat.le_of_ble_eq_true rfl) (Nat.le_of_ble_eq_true rfl) (by omega) (c_M_of hM (k := k) (f := 3) (by omega)) (fun h_3 x_3 q_3 => ?_)
  obtain ⟨e_3, rfl⟩ := q_3
  rw [e_3]
  refine sx_istore_n (pc := 6) dX7_worth_6 rfl (by decide) ?_
  show Ex _ _ _ _ _ _ [_, _, _] _ _ _
  refine ex_aload_n (pc := 7) dX7_worth_7 rfl ?_
  refine ex_iload_n (pc := 8) dX7_worth_8 rfl ?_
  refine ex_iconst (pc := 9) (v := (nI 0)) dX7_worth_9 (by decide) ?_
  refine cx_VL2i (pc := 10) dX7_worth_10 lk_X7_76 hM.1 rfl (Nat.le_of_ble_eq_true rfl) (Nat.le_of_ble_eq_true rfl) (by omega) (c_M_of hM (k := k) (f := 0) (by omega)) (fun h_10 x_10 q_10 => ?_)
  obtain ⟨e_10, rfl⟩ := q_10
  rw [e_10]
  refine ex_tsw (pc := 13) (n := 5) (l0 := 1) (tg := fun j => [48, 52, 57, 63, 71].getD j 0) (td := 73) dX7_worth_13 rfl rfl (by decide +kernel) (by decide) (by decide) (fun j_13 hj_13 c_13 => ?_) (fun c_13 => ?_)
  · rcases (show j_13 = 0 ∨ j_13 = 1 ∨ j_13 = 2 ∨ j_13 = 3 ∨ j_13 = 4 by omega) with rfl | rfl | rfl | rfl | rfl
    · show Ex _ _ _ _ _ 48 _ _ _ _
      have c_13 : _ = nI 1 := c_13
      refine ex_iload_n (pc := 48) dX7_worth_48 rfl ?_
      refine ex_iconst (pc := 49) (v := (nI 4)) dX7_worth_49 (by decide) ?_
      refine ex_iadd (pc := 50) dX7_worth_50 ?_
      refine ex_ret dX7_worth_51 rfl ?_
      refine qi_mk ⟨rfl, ?_⟩
      first | (simp_all [wrt, bI, nI_eq, nI_0]; done) | (simp_all [wrt, bI, nI_eq, nI_0]; grind) | grind [wrt, bI]
    · show Ex _ _ _ _ _ 52 _ _ _ _
      have c_13 : _ = nI 2 := c_13
      refine ex_bipush (pc := 52) (v := (nI 99)) dX7_worth_52 (by decide) ?_
      refine ex_iload_n (pc := 54) dX7_worth_54 rfl ?_
      refine ex_isub (pc := 55) dX7_worth_55 ?_
      refine ex_ret dX7_worth_56 rfl ?_
      refine qi_mk ⟨rfl, ?_⟩
      first | (simp_all [wrt, bI, nI_eq, nI_0]; done) | (simp_all [wrt, bI, nI_eq, nI_0]; grind) | grind [wrt, bI]
    · show Ex _ _ _ _ _ 57 _ _ _ _
      have c_13 : _ = nI 3 := c_13
      refine ex_iconst (pc := 57) (v := (nI 2)) dX7_worth_57 (by decide) ?_
      refine ex_iload_n (pc := 58) dX7_worth_58 rfl ?_
      refine ex_iconst (pc := 59) (v := (nI 4)) dX7_worth_59 (by decide) ?_
      refine ex_iadd (pc := 60) dX7_worth_60 ?_
      refine ex_imul (pc := 61) dX7_worth_61 ?_
      refine ex_ret dX7_worth_62 rfl ?_
      refine qi_mk ⟨rfl, ?_⟩
      first | (simp_all [wrt, bI, nI_eq, nI_0]; done) | (simp_all [wrt, bI, nI_eq, nI_0]; grind) | grind [wrt, bI]
    · show Ex _ _ _ _ _ 63 _ _ _ _
      have c_13 : _ = nI 4 := c_13
      refine ex_bipush (pc := 63) (v := (nI 99)) dX7_worth_63 (by decide) ?_
      refine ex_iload_n (pc := 65) dX7_worth_65 rfl ?_
      refine ex_isub (pc := 66) dX7_worth_66 ?_
      refine ex_bipush (pc := 67) (v := (nI 6)) dX7_worth_67 (by decide) ?_
      refine ex_isub (pc := 69) dX7_worth_69 ?_
      refine ex_ret dX7_worth_70 rfl ?_
      refine qi_mk ⟨rfl, ?_⟩
      first | (simp_all [wrt, bI, nI_eq, nI_0]; done) | (simp_all [wrt, bI, nI_eq, nI_0]; grind) | grind [wrt, bI]
    · show Ex _ _ _ _ _ 71 _ _ _ _
      have c_13 : _ = nI 5 := c_13
      refine ex_iconst (pc := 71) (v := (nI 3)) dX7_worth_71 (by decide) ?_
      refine ex_ret dX7_worth_72 rfl ?_
      refine qi_mk ⟨rfl, ?_⟩
      first | (simp_all [wrt, bI, nI_eq, nI_0]; done) | (simp_all [wrt, bI, nI_eq, nI_0]; grind) | grind [wrt, bI]
  · skip
    have c_13_1 : ¬ _ = nI 1 := c_13 0 (by decide)
    have c_13_2 : ¬ _ = nI 2 := c_13 1 (by decide)
    have c_13_3 : ¬ _ = nI 3 := c_13 2 (by decide)
    have c_13_4 : ¬ _ = nI 4 := c_13 3 (by decide)
    have c_13_5 : ¬ _ = nI 5 := c_13 4 (by decide)
    refine ex_iload_n (pc := 73) dX7_worth_73 rfl ?_
    refine ex_ret dX7_worth_74 rfl ?_
    refine qi_mk ⟨rfl, ?_⟩
    first | (simp_all [wrt, bI, nI_eq, nI_0]; done) | (simp_all [wrt, bI, nI_eq, nI_0]; grind) | grind [wrt, bI]
def cmS (s : Nat → Int32) (n : Nat) (kd ce si ti : Int32) : Nat → Int32 := (upd (upd (upd (upd (upd s 0 (nI n + nI 1)) (10 + 4 * n + 0) kd) (10 + 4 * n + 1) ce) (10 + 4 * n + 2) si) (10 + 4 * n + 3) ti)
set_option maxHeartbeats 4000000 in
set_option maxRecDepth 100000 in
theorem c_M_comes {g : Gl} {d ks : Nat} {h : AH} {z s : Nat → Int32} (hM : Ms g h z s) {n : Nat} (hn : s 0 = nI n) (hn8 : n ≤ 8) (hd : 1 ≤ d) (hn7 : n < 8) (kd ce si ti : Int32) : Ex g mX7_comes d 0 ks 0 [some (.ref (g.1 + 75)), some (.int kd), some (.int ce), some (.int si), some (.int ti), none] [] h (qv (fun h' => h' = h.set 76 (ia g 3090 (cmS s n kd ce si ti)))) := by
  refine ex_aload_n (pc := 0) dX7_comes_0 rfl ?_
  refine ex_get (pc := 1) dX7_comes_1 fl_X7_7 hM.1 rfl ?_
  refine ex_iconst (pc := 4) (v := (nI 0)) dX7_comes_4 (by decide) ?_
  refine ex_ildn (k := 0) (pc := 5) dX7_comes_5 hM.2 (by first | rfl | (simp only [nI_add, nI_mul]; done) | (simp only [nI_add, nI_mul]; rfl)) (by omega) (by decide) ?_
  rw [hn]
  refine sx_istore (pc := 6) dX7_comes_6 rfl (by decide) ?_
  show Ex _ _ _ _ _ _ [_, _, _, _, _, _] _ _ _
  refine ex_aload_n (pc := 8) dX7_comes_8 rfl ?_
  refine ex_get (pc := 9) dX7_comes_9 fl_X7_7 hM.1 rfl ?_
  refine ex_iconst (pc := 12) (v := (nI 0)) dX7_comes_12 (by decide) ?_
  refine ex_dup2 (pc := 13) dX7_comes_13 rfl rfl ?_
  refine ex_ildn (k := 0) (pc := 14) dX7_comes_14 hM.2 (by first | rfl | (simp only [nI_add, nI_mul]; done) | (simp only [nI_add, nI_mul]; rfl)) (by omega) (by decide) ?_
  rw [hn]
  refine ex_iconst (pc := 15) (v := (nI 1)) dX7_comes_15 (by decide) ?_
  refine ex_iadd (pc := 16) dX7_comes_16 ?_
  refine ex_istn (k := 0) (pc := 17) dX7_comes_17 hM.2 (by first | rfl | (simp only [nI_add, nI_mul]; done) | (simp only [nI_add, nI_mul]; rfl)) (by omega) (by decide) ?_
  refine ex_aload_n (pc := 18) dX7_comes_18 rfl ?_
  refine ex_iload (pc := 19) dX7_comes_19 rfl ?_
  refine ex_iconst (pc := 21) (v := (nI 0)) dX7_comes_21 (by decide) ?_
  refine ex_iload_n (pc := 22) dX7_comes_22 rfl ?_
  refine cx_VL3v (pc := 23) dX7_comes_23 lk_X7_150 (hM.st (upd s 0 (nI n + nI 1))).1 rfl (Nat.le_of_ble_eq_true rfl) (Nat.le_of_ble_eq_true rfl) (by omega) (c_M_sets (hM.st (upd s 0 (nI n + nI 1))) (k := n) (f := 0) (by omega) _) (fun h_23 q_23 => ?_)
  rw [q_23, List.set_set]
  refine ex_aload_n (pc := 26) dX7_comes_26 rfl ?_
  refine ex_iload (pc := 27) dX7_comes_27 rfl ?_
  refine ex_iconst (pc := 29) (v := (nI 1)) dX7_comes_29 (by decide) ?_
  refine ex_iload_n (pc := 30) dX7_comes_30 rfl ?_
  refine cx_VL3v (pc := 31) dX7_comes_31 lk_X7_150 (hM.st (upd (upd s 0 (nI n + nI 1)) (10 + 4 * n + 0) kd)).1 rfl (Nat.le_of_ble_eq_true rfl) (Nat.le_of_ble_eq_true rfl) (by omega) (c_M_sets (hM.st (upd (upd s 0 (nI n + nI 1)) (10 + 4 * n + 0) kd)) (k := n) (f := 1) (by omega) _) (fun h_31 q_31 => ?_)
  rw [q_31, List.set_set]
  refine ex_aload_n (pc := 34) dX7_comes_34 rfl ?_
  refine ex_iload (pc := 35) dX7_comes_35 rfl ?_
  refine ex_iconst (pc := 37) (v := (nI 2)) dX7_comes_37 (by decide) ?_
  refine ex_iload_n (pc := 38) dX7_comes_38 rfl ?_
  refine cx_VL3v (pc := 39) dX7_comes_39 lk_X7_150 (hM.st (upd (upd (upd s 0 (nI n + nI 1)) (10 + 4 * n + 0) kd) (10 + 4 * n + 1) ce)).1 rfl (Nat.le_of_ble_eq_true rfl) (Nat.le_of_ble_eq_true rfl) (by omega) (c_M_sets (hM.st (upd (upd (upd s 0 (nI n + nI 1)) (10 + 4 * n + 0) kd) (10 + 4 * n + 1) ce)) (k := n) (f := 2) (by omega) _) (fun h_39 q_39 => ?_)
  rw [q_39, List.set_set]
  refine ex_aload_n (pc := 42) dX7_comes_42 rfl ?_
  refine ex_iload (pc := 43) dX7_comes_43 rfl ?_
  refine ex_iconst (pc := 45) (v := (nI 3)) dX7_comes_45 (by decide) ?_
  refine ex_iload (pc := 46) dX7_comes_46 rfl ?_
  refine cx_VL3v (pc := 48) dX7_comes_48 lk_X7_150 (hM.st (upd (upd (upd (upd s 0 (nI n + nI 1)) (10 + 4 * n + 0) kd) (10 + 4 * n + 1) ce) (10 + 4 * n + 2) si)).1 rfl (Nat.le_of_ble_eq_true rfl) (Nat.le_of_ble_eq_true rfl) (by omega) (c_M_sets (hM.st (upd (upd (upd (upd s 0 (nI n + nI 1)) (10 + 4 * n + 0) kd) (10 + 4 * n + 1) ce) (10 + 4 * n + 2) si)) (k := n) (f := 3) (by omega) _) (fun h_48 q_48 => ?_)
  rw [q_48, List.set_set]
  refine ex_vret dX7_comes_51 rfl ?_
  exact qv_mk rfl
set_option maxHeartbeats 4000000 in
set_option maxRecDepth 100000 in
theorem c_M_blind_l {g : Gl} {d ks : Nat} {h : AH} {z s : Nat → Int32} {n nt : Nat} {h1 : AH} (hR1 : MR g h1 z s n nt) (hq : Sq g h h1) (hd : 1 ≤ d) : ∀ (m k : Nat), k + m = 48 → Ex g mX7_blind d 0 ks 15 [some (.ref (g.1 + 75)), some (.long (nwl (setL (wtc s nt n) 48 ^^^ (-1)) (wll s) k)), none, some (.int (nI k))] [] h1 (ql (fun h' r => Sq g h h' ∧ r = setL (bld s nt n) 48)) := by
  intro m
  induction m with
  | zero =>
    intro k hk
    refine ex_iload_n (pc := 15) dX7_blind_15 rfl ?_
    refine ex_bipush (pc := 16) (v := (nI 48)) dX7_blind_16 (by decide) ?_
    refine bx_icmp_ge_t (pc := 18) (tgt := 51) dX7_blind_18 (by decide) (by rw [show k = 48 by omega]; exact Int32.le_refl _) ?_
    refine ex_lload_n (pc := 51) dX7_blind_51 rfl ?_
    refine ex_ldc2_w (pc := 52) dX7_blind_52 cn_X7_148 ?_
    refine ex_land (pc := 55) dX7_blind_55 ?_
    refine ex_lret dX7_blind_56 rfl ?_
    obtain rfl : k = 48 := by omega
    exact ql_mk ⟨hq, by rw [blind_m]; rfl⟩
  | succ m ih =>
    intro k hk
    refine ex_iload_n (pc := 15) dX7_blind_15 rfl ?_
    refine ex_bipush (pc := 16) (v := (nI 48)) dX7_blind_16 (by decide) ?_
    refine bx_icmp_ge_f (pc := 18) (tgt := 51) dX7_blind_18 (by decide) (nI_ge (by omega) (by omega)) ?_
    refine ex_lload_n (pc := 21) dX7_blind_21 rfl ?_
    refine ex_aload_n (pc := 22) dX7_blind_22 rfl ?_
    refine ex_iload_n (pc := 23) dX7_blind_23 rfl ?_
    refine cx_VL1i (pc := 24) dX7_blind_24 lk_X7_80 hR1.1.1 rfl (Nat.le_of_ble_eq_true rfl) (Nat.le_of_ble_eq_true rfl) (by omega) (c_M_hasWall hR1.1 (show k < 48 by omega)) (fun h_24 x_24 q_24 => ?_)
    obtain ⟨e_24, rfl⟩ := q_24
    rw [e_24]
    refine ex_if_eq (pc := 27) (tgt := 40) dX7_blind_27 (by decide) (fun c_27 => ?_) (fun c_27 => ?_)
    · skip
      refine ex_ldc2_w (pc := 40) dX7_blind_40 cn_X7_146 ?_
      refine ex_land (pc := 43) dX7_blind_43 ?_
      refine sx_lstore_n (pc := 44) dX7_blind_44 rfl (by decide) ?_
      show Ex _ _ _ _ _ _ [_, _, _, _] _ _ _
      first | refine sx_inc (pc := 45) dX7_blind_45 rfl rfl (by decide) ?_ | refine sx_iinc (pc := 45) dX7_blind_45 rfl rfl (by decide) ?_
      show Ex _ _ _ _ _ _ [_, _, _, _] _ _ _
      refine ex_goto (pc := 48) (tgt := 15) dX7_blind_48 (by decide) ?_
      have z := ih (k + 1) (by omega)
      rw [nwl] at z
      first
      | (rw [if_pos (show wll s k = true from decide_eq_true (Decidable.not_not.mp (fun q => c_27 (bI_f q))))] at z; exact z)
      | (rw [if_neg (show ¬ wll s k = true from fun q => (bI_0.mp c_27) (of_decide_eq_true q))] at z; rw [and1L]; exact z)
    · skip
      refine ex_lconst (pc := 30) (v := 1) dX7_blind_30 (by decide) ?_
      refine ex_iload_n (pc := 31) dX7_blind_31 rfl ?_
      refine ex_lshl (pc := 32) dX7_blind_32 ?_
      refine ex_ldc2_w (pc := 33) dX7_blind_33 cn_X7_146 ?_
      refine ex_lxor (pc := 36) dX7_blind_36 ?_
      refine ex_goto (pc := 37) (tgt := 43) dX7_blind_37 (by decide) ?_
      refine ex_land (pc := 43) dX7_blind_43 ?_
      refine sx_lstore_n (pc := 44) dX7_blind_44 rfl (by decide) ?_
      show Ex _ _ _ _ _ _ [_, _, _, _] _ _ _
      first | refine sx_inc (pc := 45) dX7_blind_45 rfl rfl (by decide) ?_ | refine sx_iinc (pc := 45) dX7_blind_45 rfl rfl (by decide) ?_
      show Ex _ _ _ _ _ _ [_, _, _, _] _ _ _
      refine ex_goto (pc := 48) (tgt := 15) dX7_blind_48 (by decide) ?_
      have z := ih (k + 1) (by omega)
      rw [nwl] at z
      first
      | (rw [if_pos (show wll s k = true from decide_eq_true (Decidable.not_not.mp (fun q => c_27 (bI_f q))))] at z; exact z)
      | (rw [if_neg (show ¬ wll s k = true from fun q => (bI_0.mp c_27) (of_decide_eq_true q))] at z; rw [and1L]; exact z)
set_option maxHeartbeats 4000000 in
set_option maxRecDepth 100000 in
theorem c_M_blind {g : Gl} {d ks : Nat} {h : AH} {z s : Nat → Int32} {n nt : Nat} (hR : MR g h z s n nt) (hd : 7 ≤ d) : Ex g mX7_blind d 0 ks 0 [some (.ref (g.1 + 75)), none, none, none] [] h (ql (fun h' r => Sq g h h' ∧ r = setL (bld s nt n) 48)) := by
  refine ex_aload_n (pc := 0) dX7_blind_0 rfl ?_
  refine ex_aload_n (pc := 1) dX7_blind_1 rfl ?_
  refine cx_VL0i (pc := 2) dX7_blind_2 lk_X7_139 hR.1.1 rfl (Nat.le_of_ble_eq_true rfl) (Nat.le_of_ble_eq_true rfl) (by omega) (c_M_everybody hR) (fun h_2 x_2 q_2 => ?_)
  obtain ⟨e_2, f_2⟩ := q_2
  rw [e_2, f_2]
  refine cx_VL1l (pc := 5) dX7_blind_5 lk_X7_143 hR.1.1 rfl (Nat.le_of_ble_eq_true rfl) (Nat.le_of_ble_eq_true rfl) (by omega) (c_M_seenByAll hR (by omega) _) (fun h_5 x_5 q_5 => ?_)
  obtain ⟨hs_5, f_5⟩ := q_5
  rw [f_5, all_wtc hR.2.1.2.1]
  refine ex_ldc2_w (pc := 8) dX7_blind_8 cn_X7_146 ?_
  refine ex_lxor (pc := 11) dX7_blind_11 ?_
  refine sx_lstore_n (pc := 12) dX7_blind_12 rfl (by decide) ?_
  show Ex _ _ _ _ _ _ [_, _, _, _] _ _ _
  refine ex_iconst (pc := 13) (v := (nI 0)) dX7_blind_13 (by decide) ?_
  refine sx_istore_n (pc := 14) dX7_blind_14 rfl (by decide) ?_
  show Ex _ _ _ _ _ _ [_, _, _, _] _ _ _
  exact c_M_blind_l (hR.sq hs_5) hs_5 (by omega) 48 0 (by omega)
set_option maxHeartbeats 4000000 in
set_option maxRecDepth 100000 in
theorem c_M_walls_l {g : Gl} {d ks : Nat} {h : AH} {z s : Nat → Int32} (hM : Ms g h z s) : ∀ (m k : Nat), k + m = 48 → Ex g mX7_walls d 0 ks 4 [some (.ref (g.1 + 75)), some (.int (smF (fun c => s (42 + c)) k)), some (.int (nI k))] [] h (qi (fun h' r => h' = h ∧ r = (smF (fun c => s (42 + c)) 48))) := by
  intro m
  induction m with
  | zero =>
    intro k hk
    refine ex_iload_n (pc := 4) dX7_walls_4 rfl ?_
    refine ex_bipush (pc := 5) (v := (nI 48)) dX7_walls_5 (by decide) ?_
    refine bx_icmp_ge_t (pc := 7) (tgt := 28) dX7_walls_7 (by decide) (by rw [show k = 48 by omega]; exact Int32.le_refl _) ?_
    refine ex_iload_n (pc := 28) dX7_walls_28 rfl ?_
    refine ex_ret dX7_walls_29 rfl ?_
    obtain rfl : k = 48 := by omega
    exact qi_mk ⟨rfl, rfl⟩
  | succ m ih =>
    intro k hk
    refine ex_iload_n (pc := 4) dX7_walls_4 rfl ?_
    refine ex_bipush (pc := 5) (v := (nI 48)) dX7_walls_5 (by decide) ?_
    refine bx_icmp_ge_f (pc := 7) (tgt := 28) dX7_walls_7 (by decide) (nI_ge (by omega) (by omega)) ?_
    refine ex_iload_n (pc := 10) dX7_walls_10 rfl ?_
    refine ex_aload_n (pc := 11) dX7_walls_11 rfl ?_
    refine ex_get (pc := 12) dX7_walls_12 fl_X7_7 hM.1 rfl ?_
    refine ex_bipush (pc := 15) (v := (nI 42)) dX7_walls_15 (by decide) ?_
    refine ex_iload_n (pc := 17) dX7_walls_17 rfl ?_
    refine ex_iadd (pc := 18) dX7_walls_18 ?_
    refine ex_ildn (k := 42 + k) (pc := 19) dX7_walls_19 hM.2 (by first | rfl | (simp only [nI_add, nI_mul]; done) | (simp only [nI_add, nI_mul]; rfl)) (by omega) (by decide) ?_
    refine ex_iadd (pc := 20) dX7_walls_20 ?_
    refine sx_istore_n (pc := 21) dX7_walls_21 rfl (by decide) ?_
    show Ex _ _ _ _ _ _ [_, _, _] _ _ _
    first | refine sx_inc (pc := 22) dX7_walls_22 rfl rfl (by decide) ?_ | refine sx_iinc (pc := 22) dX7_walls_22 rfl rfl (by decide) ?_
    show Ex _ _ _ _ _ _ [_, _, _] _ _ _
    refine ex_goto (pc := 25) (tgt := 4) dX7_walls_25 (by decide) ?_
    exact ih (k + 1) (by omega)
set_option maxHeartbeats 4000000 in
set_option maxRecDepth 100000 in
theorem c_M_walls {g : Gl} {d ks : Nat} {h : AH} {z s : Nat → Int32} (hM : Ms g h z s) : Ex g mX7_walls d 0 ks 0 [some (.ref (g.1 + 75)), none, none] [] h (qi (fun h' r => h' = h ∧ r = (smF (fun c => s (42 + c)) 48))) := by
  refine ex_iconst (pc := 0) (v := (nI 0)) dX7_walls_0 (by decide) ?_
  refine sx_istore_n (pc := 1) dX7_walls_1 rfl (by decide) ?_
  show Ex _ _ _ _ _ _ [_, _, _] _ _ _
  refine ex_iconst (pc := 2) (v := (nI 0)) dX7_walls_2 (by decide) ?_
  refine sx_istore_n (pc := 3) dX7_walls_3 rfl (by decide) ?_
  show Ex _ _ _ _ _ _ [_, _, _] _ _ _
  exact c_M_walls_l hM 48 0 (by omega)
/-- what a room shows: 0 caught, 1 unseen, 2 the thief, 3 those awake, 4 tired of all -/
def stdS (s : Nat → Int32) (n : Nat) (w : Nat) : Int32 := if w < 3 then s (5 + w) else if w = 3 then orS (awS s) n else trd s n
set_option maxHeartbeats 4000000 in
set_option maxRecDepth 100000 in
theorem c_M_roomOf {g : Gl} {d ks : Nat} {h : AH} {z s : Nat → Int32} {n nt : Nat} (hR : MR g h z s n nt) (hd : 3 ≤ d) {w : Nat} (hw : w < 5) : Ex g mX7_roomOf d 0 ks 0 [some (.ref (g.1 + 75)), some (.int (nI w))] [] h (qi (fun h' r => h' = h ∧ r = stdS s n w)) := by
  refine ex_iload_n (pc := 0) dX7_roomOf_0 rfl ?_
  refine ex_iconst (pc := 1) (v := (nI 3)) dX7_roomOf_1 (by decide) ?_
  refine ex_icmp_ge (pc := 2) (tgt := 16) dX7_roomOf_2 (by decide) (fun c_2 => ?_) (fun c_2 => ?_)
  · skip
    refine ex_iload_n (pc := 16) dX7_roomOf_16 rfl ?_
    refine ex_iconst (pc := 17) (v := (nI 3)) dX7_roomOf_17 (by decide) ?_
    refine ex_icmp_ne (pc := 18) (tgt := 28) dX7_roomOf_18 (by decide) (fun c_18 => ?_) (fun c_18 => ?_)
    · skip
      refine ex_iload_n (pc := 28) dX7_roomOf_28 rfl ?_
      refine ex_iconst (pc := 29) (v := (nI 4)) dX7_roomOf_29 (by decide) ?_
      refine ex_icmp_ne (pc := 30) (tgt := 40) dX7_roomOf_30 (by decide) (fun c_30 => ?_) (fun c_30 => ?_)
      · skip
        refine ex_aload_n (pc := 40) dX7_roomOf_40 rfl ?_
        refine cx_VL0i (pc := 41) dX7_roomOf_41 lk_X7_247 hR.1.1 rfl (Nat.le_of_ble_eq_true rfl) (Nat.le_of_ble_eq_true rfl) (by omega) (c_M_walls hR.1) (fun h_41 x_41 q_41 => ?_)
        obtain ⟨e_41, f_41⟩ := q_41
        rw [e_41, f_41]
        refine ex_ret dX7_roomOf_44 rfl ?_
        have l3 : (nI w < nI 3) ↔ w < 3 := nI_ltI (by omega) (by omega)
        have e3 : (nI w = nI 3) ↔ w = 3 := nI_eq (by omega) (by omega)
        have e4 : (nI w = nI 4) ↔ w = 4 := nI_eq (by omega) (by omega)
        have l3' : (nI 3 ≤ nI w) ↔ 3 ≤ w := nI_leI (by omega) (by omega)
        simp only [l3', e3, e4] at *
        refine qi_mk ⟨rfl, ?_⟩
        unfold stdS
        first
        | (rw [if_pos (by omega)]; done)
        | (rw [if_neg (by omega), if_pos (by omega)]; done)
        | (rw [if_neg (by omega), if_neg (by omega)]; done)
        | omega
      · skip
        refine ex_aload_n (pc := 33) dX7_roomOf_33 rfl ?_
        refine cx_VL0i (pc := 34) dX7_roomOf_34 lk_X7_244 hR.1.1 rfl (Nat.le_of_ble_eq_true rfl) (Nat.le_of_ble_eq_true rfl) (by omega) (c_M_tiredOfAll hR.1 hR.2.1.1 hR.2.1.2.1 (by omega)) (fun h_34 x_34 q_34 => ?_)
        obtain ⟨e_34, f_34⟩ := q_34
        rw [e_34, f_34]
        refine ex_goto (pc := 37) (tgt := 44) dX7_roomOf_37 (by decide) ?_
        refine ex_ret dX7_roomOf_44 rfl ?_
        have l3 : (nI w < nI 3) ↔ w < 3 := nI_ltI (by omega) (by omega)
        have e3 : (nI w = nI 3) ↔ w = 3 := nI_eq (by omega) (by omega)
        have e4 : (nI w = nI 4) ↔ w = 4 := nI_eq (by omega) (by omega)
        have l3' : (nI 3 ≤ nI w) ↔ 3 ≤ w := nI_leI (by omega) (by omega)
        simp only [l3', e3, e4] at *
        refine qi_mk ⟨rfl, ?_⟩
        unfold stdS
        first
        | (rw [if_pos (by omega)]; done)
        | (rw [if_neg (by omega), if_pos (by omega)]; done)
        | (rw [if_neg (by omega), if_neg (by omega)]; done)
        | omega
    · skip
      refine ex_aload_n (pc := 21) dX7_roomOf_21 rfl ?_
      refine cx_VL0i (pc := 22) dX7_roomOf_22 lk_X7_220 hR.1.1 rfl (Nat.le_of_ble_eq_true rfl) (Nat.le_of_ble_eq_true rfl) (by omega) (c_M_awake hR (by omega)) (fun h_22 x_22 q_22 => ?_)
      obtain ⟨e_22, f_22⟩ := q_22
      rw [e_22, f_22]
      refine ex_goto (pc := 25) (tgt := 44) dX7_roomOf_25 (by decide) ?_
      refine ex_ret dX7_roomOf_44 rfl ?_
      have l3 : (nI w < nI 3) ↔ w < 3 := nI_ltI (by omega) (by omega)
      have e3 : (nI w = nI 3) ↔ w = 3 := nI_eq (by omega) (by omega)
      have e4 : (nI w = nI 4) ↔ w = 4 := nI_eq (by omega) (by omega)
      have l3' : (nI 3 ≤ nI w) ↔ 3 ≤ w := nI_leI (by omega) (by omega)
      simp only [l3', e3, e4] at *
      refine qi_mk ⟨rfl, ?_⟩
      unfold stdS
      first
      | (rw [if_pos (by omega)]; done)
      | (rw [if_neg (by omega), if_pos (by omega)]; done)
      | (rw [if_neg (by omega), if_neg (by omega)]; done)
      | omega
  · skip
    refine ex_aload_n (pc := 5) dX7_roomOf_5 rfl ?_
    refine ex_get (pc := 6) dX7_roomOf_6 fl_X7_7 hR.1.1 rfl ?_
    refine ex_iconst (pc := 9) (v := (nI 5)) dX7_roomOf_9 (by decide) ?_
    refine ex_iload_n (pc := 10) dX7_roomOf_10 rfl ?_
    refine ex_iadd (pc := 11) dX7_roomOf_11 ?_
    refine ex_ildn (k := 5 + w) (pc := 12) dX7_roomOf_12 hR.1.2 (by first | rfl | (simp only [nI_add, nI_mul]; done) | (simp only [nI_add, nI_mul]; rfl)) (by omega) (by decide) ?_
    refine ex_goto (pc := 13) (tgt := 44) dX7_roomOf_13 (by decide) ?_
    refine ex_ret dX7_roomOf_44 rfl ?_
    have l3 : (nI w < nI 3) ↔ w < 3 := nI_ltI (by omega) (by omega)
    have e3 : (nI w = nI 3) ↔ w = 3 := nI_eq (by omega) (by omega)
    have e4 : (nI w = nI 4) ↔ w = 4 := nI_eq (by omega) (by omega)
    have l3' : (nI 3 ≤ nI w) ↔ 3 ≤ w := nI_leI (by omega) (by omega)
    simp only [l3', e3, e4] at *
    refine qi_mk ⟨rfl, ?_⟩
    unfold stdS
    first
    | (rw [if_pos (by omega)]; done)
    | (rw [if_neg (by omega), if_pos (by omega)]; done)
    | (rw [if_neg (by omega), if_neg (by omega)]; done)
    | omega
set_option maxHeartbeats 4000000 in
set_option maxRecDepth 100000 in
theorem c_R_standing {g : Gl} {d ks : Nat} {h : AH} {b n : Nat} {s : Nat → Int32} (hR : RoomB g h b s n) (hd : 2 ≤ d) {w : Nat} (hw : w < 5) : Ex g mX2_standing d 0 ks 0 [some (.ref (g.1 + b)), some (.int (nI w))] [] h (qi (fun h' r => h' = h ∧ r = stdS s n w)) := by
  refine ex_iload_n (pc := 0) dX2_standing_0 rfl ?_
  refine ex_tsw (pc := 1) (n := 4) (l0 := 0) (tg := fun j => [32, 37, 42, 47].getD j 0) (td := 52) dX2_standing_1 rfl rfl (by decide +kernel) (by decide) (by decide) (fun j_1 hj_1 c_1 => ?_) (fun c_1 => ?_)
  · rcases (show j_1 = 0 ∨ j_1 = 1 ∨ j_1 = 2 ∨ j_1 = 3 by omega) with rfl | rfl | rfl | rfl
    · show Ex _ _ _ _ _ 32 _ _ _ _
      have c_1 : _ = nI 0 := c_1
      refine ex_aload_n (pc := 32) dX2_standing_32 rfl ?_
      refine ex_get (pc := 33) dX2_standing_33 fl_X2_34 hR.1 rfl ?_
      refine ex_ret dX2_standing_36 rfl ?_
      refine qi_mk ⟨rfl, ?_⟩
      have eW : ∀ j, j < 5 → (nI w = nI j → w = j) := fun j hj q => (nI_eq (by omega) (by omega)).mp q
      first
      | (obtain rfl := eW 0 (by omega) c_1; rfl)
      | (obtain rfl := eW 1 (by omega) c_1; rfl)
      | (obtain rfl := eW 2 (by omega) c_1; rfl)
      | (obtain rfl := eW 3 (by omega) c_1; rfl)
      | (have w4 : w = 4 := by
           have n0 : ¬ w = 0 := fun q => c_1_0 (by rw [q])
           have n1 : ¬ w = 1 := fun q => c_1_1 (by rw [q])
           have n2 : ¬ w = 2 := fun q => c_1_2 (by rw [q])
           have n3 : ¬ w = 3 := fun q => c_1_3 (by rw [q])
           omega
         rw [w4]; rfl)
    · show Ex _ _ _ _ _ 37 _ _ _ _
      have c_1 : _ = nI 1 := c_1
      refine ex_aload_n (pc := 37) dX2_standing_37 rfl ?_
      refine ex_get (pc := 38) dX2_standing_38 fl_X2_37 hR.1 rfl ?_
      refine ex_ret dX2_standing_41 rfl ?_
      refine qi_mk ⟨rfl, ?_⟩
      have eW : ∀ j, j < 5 → (nI w = nI j → w = j) := fun j hj q => (nI_eq (by omega) (by omega)).mp q
      first
      | (obtain rfl := eW 0 (by omega) c_1; rfl)
      | (obtain rfl := eW 1 (by omega) c_1; rfl)
      | (obtain rfl := eW 2 (by omega) c_1; rfl)
      | (obtain rfl := eW 3 (by omega) c_1; rfl)
      | (have w4 : w = 4 := by
           have n0 : ¬ w = 0 := fun q => c_1_0 (by rw [q])
           have n1 : ¬ w = 1 := fun q => c_1_1 (by rw [q])
           have n2 : ¬ w = 2 := fun q => c_1_2 (by rw [q])
           have n3 : ¬ w = 3 := fun q => c_1_3 (by rw [q])
           omega
         rw [w4]; rfl)
    · show Ex _ _ _ _ _ 42 _ _ _ _
      have c_1 : _ = nI 2 := c_1
      refine ex_aload_n (pc := 42) dX2_standing_42 rfl ?_
      refine ex_get (pc := 43) dX2_standing_43 fl_X2_25 hR.1 rfl ?_
      refine ex_ret dX2_standing_46 rfl ?_
      refine qi_mk ⟨rfl, ?_⟩
      have eW : ∀ j, j < 5 → (nI w = nI j → w = j) := fun j hj q => (nI_eq (by omega) (by omega)).mp q
      first
      | (obtain rfl := eW 0 (by omega) c_1; rfl)
      | (obtain rfl := eW 1 (by omega) c_1; rfl)
      | (obtain rfl := eW 2 (by omega) c_1; rfl)
      | (obtain rfl := eW 3 (by omega) c_1; rfl)
      | (have w4 : w = 4 := by
           have n0 : ¬ w = 0 := fun q => c_1_0 (by rw [q])
           have n1 : ¬ w = 1 := fun q => c_1_1 (by rw [q])
           have n2 : ¬ w = 2 := fun q => c_1_2 (by rw [q])
           have n3 : ¬ w = 3 := fun q => c_1_3 (by rw [q])
           omega
         rw [w4]; rfl)
    · show Ex _ _ _ _ _ 47 _ _ _ _
      have c_1 : _ = nI 3 := c_1
      refine ex_aload_n (pc := 47) dX2_standing_47 rfl ?_
      refine cx_VL0i (pc := 48) dX2_standing_48 lk_X2_174 hR.1 rfl (Nat.le_of_ble_eq_true rfl) (Nat.le_of_ble_eq_true rfl) (by omega) (c_R_awakePosts hR (by omega)) (fun h_48 x_48 q_48 => ?_)
      obtain ⟨e_48, f_48⟩ := q_48
      rw [e_48, f_48]
      refine ex_ret dX2_standing_51 rfl ?_
      refine qi_mk ⟨rfl, ?_⟩
      have eW : ∀ j, j < 5 → (nI w = nI j → w = j) := fun j hj q => (nI_eq (by omega) (by omega)).mp q
      first
      | (obtain rfl := eW 0 (by omega) c_1; rfl)
      | (obtain rfl := eW 1 (by omega) c_1; rfl)
      | (obtain rfl := eW 2 (by omega) c_1; rfl)
      | (obtain rfl := eW 3 (by omega) c_1; rfl)
      | (have w4 : w = 4 := by
           have n0 : ¬ w = 0 := fun q => c_1_0 (by rw [q])
           have n1 : ¬ w = 1 := fun q => c_1_1 (by rw [q])
           have n2 : ¬ w = 2 := fun q => c_1_2 (by rw [q])
           have n3 : ¬ w = 3 := fun q => c_1_3 (by rw [q])
           omega
         rw [w4]; rfl)
  · skip
    have c_1_0 : ¬ _ = nI 0 := c_1 0 (by decide)
    have c_1_1 : ¬ _ = nI 1 := c_1 1 (by decide)
    have c_1_2 : ¬ _ = nI 2 := c_1 2 (by decide)
    have c_1_3 : ¬ _ = nI 3 := c_1 3 (by decide)
    refine ex_aload_n (pc := 52) dX2_standing_52 rfl ?_
    refine cx_VL0i (pc := 53) dX2_standing_53 lk_X2_177 hR.1 rfl (Nat.le_of_ble_eq_true rfl) (Nat.le_of_ble_eq_true rfl) (by omega) (c_R_tiredOfAll hR) (fun h_53 x_53 q_53 => ?_)
    obtain ⟨e_53, f_53⟩ := q_53
    rw [e_53, f_53]
    refine ex_ret dX2_standing_56 rfl ?_
    refine qi_mk ⟨rfl, ?_⟩
    have eW : ∀ j, j < 5 → (nI w = nI j → w = j) := fun j hj q => (nI_eq (by omega) (by omega)).mp q
    first
    | (obtain rfl := eW 0 (by omega) c_1; rfl)
    | (obtain rfl := eW 1 (by omega) c_1; rfl)
    | (obtain rfl := eW 2 (by omega) c_1; rfl)
    | (obtain rfl := eW 3 (by omega) c_1; rfl)
    | (have w4 : w = 4 := by
         have n0 : ¬ w = 0 := fun q => c_1_0 (by rw [q])
         have n1 : ¬ w = 1 := fun q => c_1_1 (by rw [q])
         have n2 : ¬ w = 2 := fun q => c_1_2 (by rw [q])
         have n3 : ¬ w = 3 := fun q => c_1_3 (by rw [q])
         omega
       rw [w4]; rfl)

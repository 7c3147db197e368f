/-! who sees what -/
def seeS (s : Nat → Int32) (kd si : Int32) (c : Nat) (rc : Int32) (t : Nat) : Bool := decide (t = c) || (!(wll s t) && decide (ab32 (iI (rwO c t)) + ab32 (iI (clO c t)) ≤ rc) && lks kd si (iI (rwO c t)) (iI (clO c t)) && clrF (fun k => wll s (pcl c (rwO c t) (clO c t) k)) (mxA (rwO c t) (clO c t) - 1) 1)
theorem rcO_rng {c t : Nat} (hc : c < 48) (ht : t < 48) : (-7 ≤ rwO c t ∧ rwO c t ≤ 7) ∧ (-7 ≤ clO c t ∧ clO c t ≤ 7) := by simp only [rwO, clO]; omega
theorem mxA_lt {c t : Nat} (hc : c < 48) (ht : t < 48) : mxA (rwO c t) (clO c t) < 8 := by
  have := rcO_rng hc ht
  unfold mxA
  omega
theorem g_fd {c t : Nat} (hc : c < 48) (ht : t < 48) {k : Nat} (hk : k < mxA (rwO c t) (clO c t)) : nI c + nI 8 * fd32 (nI 2 * iI (rwO c t) * nI k + nI (mxA (rwO c t) (clO c t))) (nI 2 * nI (mxA (rwO c t) (clO c t))) + fd32 (nI 2 * iI (clO c t) * nI k + nI (mxA (rwO c t) (clO c t))) (nI 2 * nI (mxA (rwO c t) (clO c t))) = nI (pcl c (rwO c t) (clO c t) k) := by
  obtain ⟨h1, h2⟩ := rcO_rng hc ht
  have hm := mxA_lt hc ht
  obtain ⟨e1, -⟩ := pcl_eq hc ht hk
  obtain ⟨a, ha, ea⟩ := off_code h1.1 h1.2
  obtain ⟨b, hb, eb⟩ := off_code h2.1 h2.2
  rw [iI_nI (pcl c (rwO c t) (clO c t) k), ← e1]
  generalize mxA (rwO c t) (clO c t) = m at *
  rw [ea, eb, (geo_fd a ha m hm k hk).1, (geo_fd b hb m hm k hk).1, iI_nI 8, iI_nI c, iI_mul, iI_add, iI_add]
  rfl
theorem g_nr {c t : Nat} (hc : c < 48) (ht : t < 48) {k : Nat} (hk : k < mxA (rwO c t) (clO c t)) : nI 8 * (nI c / nI 8 + nrs (iI (rwO c t) * nI k) (nI (mxA (rwO c t) (clO c t)))) + (rm32 (nI c) (nI 8) + nrs (iI (clO c t) * nI k) (nI (mxA (rwO c t) (clO c t)))) = nI (pcl c (rwO c t) (clO c t) k) := by
  obtain ⟨h1, h2⟩ := rcO_rng hc ht
  have hm := mxA_lt hc ht
  obtain ⟨e1, -⟩ := pcl_eq hc ht hk
  obtain ⟨a, ha, ea⟩ := off_code h1.1 h1.2
  obtain ⟨b, hb, eb⟩ := off_code h2.1 h2.2
  rw [iI_nI (pcl c (rwO c t) (clO c t) k), ← e1]
  generalize mxA (rwO c t) (clO c t) = m at *
  rw [ea, eb, (geo_fd a ha m hm k hk).2, (geo_fd b hb m hm k hk).2, nI_div (by omega) (by omega) (by omega), nI_rem (by omega) (by omega) (by omega), iI_nI 8, iI_nI (c / 8), iI_nI (c % 8), iI_add, iI_mul, iI_add, iI_add]
  congr 1
  omega
theorem g_mx {c t : Nat} (hc : c < 48) (ht : t < 48) : mx32 (ab32 (iI (rwO c t))) (ab32 (iI (clO c t))) = nI (mxA (rwO c t) (clO c t)) := by
  obtain ⟨h1, h2⟩ := rcO_rng hc ht
  obtain ⟨a, ha, ea⟩ := off_code h1.1 h1.2
  obtain ⟨b, hb, eb⟩ := off_code h2.1 h2.2
  rw [ea, eb]; exact (geo_n a ha b hb).1
theorem g_mo {c t : Nat} (hc : c < 48) (ht : t < 48) : (if offI (iI (clO c t)) (nI 0) < offI (iI (rwO c t)) (nI 0) then offI (iI (rwO c t)) (nI 0) else offI (iI (clO c t)) (nI 0)) = nI (mxA (rwO c t) (clO c t)) := by
  obtain ⟨h1, h2⟩ := rcO_rng hc ht
  obtain ⟨a, ha, ea⟩ := off_code h1.1 h1.2
  obtain ⟨b, hb, eb⟩ := off_code h2.1 h2.2
  rw [ea, eb]; exact (geo_n a ha b hb).2.1
theorem g_ao {c t : Nat} (hc : c < 48) (ht : t < 48) : offI (iI (rwO c t)) (nI 0) + offI (iI (clO c t)) (nI 0) = ab32 (iI (rwO c t)) + ab32 (iI (clO c t)) := by
  obtain ⟨h1, h2⟩ := rcO_rng hc ht
  obtain ⟨a, ha, ea⟩ := off_code h1.1 h1.2
  obtain ⟨b, hb, eb⟩ := off_code h2.1 h2.2
  rw [ea, eb]; exact (geo_n a ha b hb).2.2.symm
theorem bI_a1 (p : Bool) : bI (p = true) &&& nI 1 = bI (p = true) := by cases p <;> decide
theorem bI_a0 (p : Bool) : bI (p = true) &&& nI 0 = bI (false = true) := by cases p <;> decide
theorem mxA_pos {c t : Nat} (h : ¬ t = c) : 0 < mxA (rwO c t) (clO c t) := by
  unfold mxA
  simp only [rwO, clO]
  omega
theorem n2_ne {m : Nat} (h0 : 0 < m) (h : m < 8) : ¬ nI 2 * nI m = 0 := by rw [nI_mul]; exact nI_ne0 (by omega) (by omega)
def subL : List (Option Value) → List (Option Value) → Prop
  | [], _ => True
  | none :: a, _ :: b => subL a b
  | some v :: a, some w :: b => v = w ∧ subL a b
  | _, _ => False
theorem dropL_ : ∀ (a b : List (Option Value)), subL a b → ∀ (i : Nat) (v : Value), a[i]? = some (some v) → b[i]? = some (some v) := by
  intro a
  induction a with
  | nil => intro b _ i v h; cases h
  | cons x a ih =>
    intro b hs i v h
    cases b with
    | nil => cases x <;> exact absurd hs (by simp [subL])
    | cons y b =>
      cases x with
      | none =>
        cases i with
        | zero => cases h
        | succ i => exact ih b hs i v h
      | some x =>
        cases y with
        | none => exact absurd hs (by simp [subL])
        | some y =>
          obtain ⟨e, hs⟩ := hs
          cases i with
          | zero => cases h; rw [e]; rfl
          | succ i => exact ih b hs i v h
set_option maxHeartbeats 4000000 in
set_option maxRecDepth 100000 in
theorem c_R_isClear_l {g : Gl} {d ks : Nat} {h : AH} {b n : Nat} {s : Nat → Int32} (hR : RoomB g h b s n) (hd : 1 ≤ d) {c t : Nat} (hc : c < 48) (ht : t < 48) : ∀ (m k : Nat), k + m = (mxA (rwO c t) (clO c t)) → 1 ≤ k → Ex g mX2_isClear d 0 ks 16 [some (.ref (g.1 + b)), some (.int (nI c)), some (.int (iI (rwO c t))), some (.int (iI (clO c t))), some (.int (nI (mxA (rwO c t) (clO c t)))), some (.int (nI k)), none, none] [] h (qi (fun h' r => h' = h ∧ r = bI (clrF (fun k => wll s (pcl c (rwO c t) (clO c t) k)) m k = true))) := by
  have hm := mxA_lt hc ht
  intro m
  induction m with
  | zero =>
    intro k hk hk1
    refine ex_iload (pc := 16) dX2_isClear_16 rfl ?_
    refine ex_iload (pc := 18) dX2_isClear_18 rfl ?_
    refine bx_icmp_ge_t (pc := 20) (tgt := 84) dX2_isClear_20 (by decide) (by rw [show k = (mxA (rwO c t) (clO c t)) by omega]; exact Int32.le_refl _) ?_
    refine ex_iconst (pc := 84) (v := 1) dX2_isClear_84 (by decide) ?_
    refine ex_zret dX2_isClear_85 rfl (by first | exact Or.inl rfl | exact Or.inr rfl | exact bI_01 _) ?_
    exact qi_mk ⟨rfl, rfl⟩
  | succ m ih =>
    intro k hk hk1
    refine ex_iload (pc := 16) dX2_isClear_16 rfl ?_
    refine ex_iload (pc := 18) dX2_isClear_18 rfl ?_
    refine bx_icmp_ge_f (pc := 20) (tgt := 84) dX2_isClear_20 (by decide) (nI_ge (by omega) (by omega)) ?_
    refine ex_iconst (pc := 23) (v := (nI 2)) dX2_isClear_23 (by decide) ?_
    refine ex_iload_n (pc := 24) dX2_isClear_24 rfl ?_
    refine ex_imul (pc := 25) dX2_isClear_25 ?_
    refine ex_iload (pc := 26) dX2_isClear_26 rfl ?_
    refine ex_imul (pc := 28) dX2_isClear_28 ?_
    refine ex_iload (pc := 29) dX2_isClear_29 rfl ?_
    refine ex_iadd (pc := 31) dX2_isClear_31 ?_
    refine ex_iconst (pc := 32) (v := (nI 2)) dX2_isClear_32 (by decide) ?_
    refine ex_iload (pc := 33) dX2_isClear_33 rfl ?_
    refine ex_imul (pc := 35) dX2_isClear_35 ?_
    refine cx_SL2i (pc := 36) dX2_isClear_36 lk_X2_128 rfl (Nat.le_of_ble_eq_true rfl) (Nat.le_of_ble_eq_true rfl) (by omega) (c_floorDiv _ _ (n2_ne (by omega) hm)) (fun h_36 x_36 q_36 => ?_)
    obtain ⟨e_36, rfl⟩ := q_36
    rw [e_36]
    refine sx_istore (pc := 39) dX2_isClear_39 rfl (by decide) ?_
    show Ex _ _ _ _ _ _ [_, _, _, _, _, _, _, _] _ _ _
    refine ex_iconst (pc := 41) (v := (nI 2)) dX2_isClear_41 (by decide) ?_
    refine ex_iload_n (pc := 42) dX2_isClear_42 rfl ?_
    refine ex_imul (pc := 43) dX2_isClear_43 ?_
    refine ex_iload (pc := 44) dX2_isClear_44 rfl ?_
    refine ex_imul (pc := 46) dX2_isClear_46 ?_
    refine ex_iload (pc := 47) dX2_isClear_47 rfl ?_
    refine ex_iadd (pc := 49) dX2_isClear_49 ?_
    refine ex_iconst (pc := 50) (v := (nI 2)) dX2_isClear_50 (by decide) ?_
    refine ex_iload (pc := 51) dX2_isClear_51 rfl ?_
    refine ex_imul (pc := 53) dX2_isClear_53 ?_
    refine cx_SL2i (pc := 54) dX2_isClear_54 lk_X2_128 rfl (Nat.le_of_ble_eq_true rfl) (Nat.le_of_ble_eq_true rfl) (by omega) (c_floorDiv _ _ (n2_ne (by omega) hm)) (fun h_54 x_54 q_54 => ?_)
    obtain ⟨e_54, rfl⟩ := q_54
    rw [e_54]
    refine sx_istore (pc := 57) dX2_isClear_57 rfl (by decide) ?_
    show Ex _ _ _ _ _ _ [_, _, _, _, _, _, _, _] _ _ _
    refine ex_aload_n (pc := 59) dX2_isClear_59 rfl ?_
    refine ex_iload_n (pc := 60) dX2_isClear_60 rfl ?_
    refine ex_bipush (pc := 61) (v := (nI 8)) dX2_isClear_61 (by decide) ?_
    refine ex_iload (pc := 63) dX2_isClear_63 rfl ?_
    refine ex_imul (pc := 65) dX2_isClear_65 ?_
    refine ex_iadd (pc := 66) dX2_isClear_66 ?_
    refine ex_iload (pc := 67) dX2_isClear_67 rfl ?_
    refine ex_iadd (pc := 69) dX2_isClear_69 ?_
    rw [g_fd hc ht (show k < _ by omega)]
    refine cx_VL1i (pc := 70) dX2_isClear_70 lk_X2_68 hR.1 rfl (Nat.le_of_ble_eq_true rfl) (Nat.le_of_ble_eq_true rfl) (by omega) (c_R_hasWall hR (pcl_eq hc ht (show k < _ by omega)).2) (fun h_70 x_70 q_70 => ?_)
    obtain ⟨e_70, rfl⟩ := q_70
    rw [e_70]
    refine ex_if_eq (pc := 73) (tgt := 78) dX2_isClear_73 (by decide) (fun c_73 => ?_) (fun c_73 => ?_)
    · skip
      first | refine sx_inc (pc := 78) dX2_isClear_78 rfl rfl (by decide) ?_ | refine sx_iinc (pc := 78) dX2_isClear_78 rfl rfl (by decide) ?_
      show Ex _ _ _ _ _ _ [_, _, _, _, _, _, _, _] _ _ _
      refine ex_goto (pc := 81) (tgt := 16) dX2_isClear_81 (by decide) ?_
      refine Ex.drop (als' := [some (.ref (g.1 + b)), some (.int (nI c)), some (.int (iI (rwO c t))), some (.int (iI (clO c t))), some (.int (nI (mxA (rwO c t) (clO c t)))), some (.int (nI (k + 1))), none, none]) (dropL_ _ _ (by simp [subL])) ?_
      refine (ih (k + 1) (by omega) (by omega)).mono (fun h' r hq => ?_)
      obtain ⟨x, rfl, rfl, rfl⟩ := hq
      refine qi_mk ⟨rfl, bI_eq ?_⟩
      try simp only [bI_0] at *
      simp_all [clrF, wll]
    · skip
      refine ex_iconst (pc := 76) (v := 0) dX2_isClear_76 (by decide) ?_
      refine ex_zret dX2_isClear_77 rfl (by first | exact Or.inl rfl | exact Or.inr rfl | exact bI_01 _) ?_
      refine qi_mk ⟨rfl, ?_⟩
      try simp only [bI_0] at *
      simp_all [clrF, bI, wll]
set_option maxHeartbeats 4000000 in
set_option maxRecDepth 100000 in
theorem c_R_isClear {g : Gl} {d ks : Nat} {h : AH} {b n : Nat} {s : Nat → Int32} (hR : RoomB g h b s n) (hd : 1 ≤ d) {c t : Nat} (hc : c < 48) (ht : t < 48) (hne : ¬ t = c) : Ex g mX2_isClear d 0 ks 0 [some (.ref (g.1 + b)), some (.int (nI c)), some (.int (iI (rwO c t))), some (.int (iI (clO c t))), none, none, none, none] [] h (qi (fun h' r => h' = h ∧ r = bI (clrF (fun k => wll s (pcl c (rwO c t) (clO c t) k)) ((mxA (rwO c t) (clO c t)) - 1) 1 = true))) := by
  refine ex_iload_n (pc := 0) dX2_isClear_0 rfl ?_
  refine cx_SL1i (pc := 1) dX2_isClear_1 lk_X2_112 rfl (Nat.le_of_ble_eq_true rfl) (Nat.le_of_ble_eq_true rfl) (by omega) (c_abs _) (fun h_1 x_1 q_1 => ?_)
  obtain ⟨e_1, rfl⟩ := q_1
  rw [e_1]
  refine ex_iload_n (pc := 4) dX2_isClear_4 rfl ?_
  refine cx_SL1i (pc := 5) dX2_isClear_5 lk_X2_112 rfl (Nat.le_of_ble_eq_true rfl) (Nat.le_of_ble_eq_true rfl) (by omega) (c_abs _) (fun h_5 x_5 q_5 => ?_)
  obtain ⟨e_5, rfl⟩ := q_5
  rw [e_5]
  refine cx_SL2i (pc := 8) dX2_isClear_8 lk_X2_125 rfl (Nat.le_of_ble_eq_true rfl) (Nat.le_of_ble_eq_true rfl) (by omega) (c_max _ _) (fun h_8 x_8 q_8 => ?_)
  obtain ⟨e_8, rfl⟩ := q_8
  rw [e_8]
  rw [g_mx hc ht]
  refine sx_istore (pc := 11) dX2_isClear_11 rfl (by decide) ?_
  show Ex _ _ _ _ _ _ [_, _, _, _, _, _, _, _] _ _ _
  refine ex_iconst (pc := 13) (v := (nI 1)) dX2_isClear_13 (by decide) ?_
  refine sx_istore (pc := 14) dX2_isClear_14 rfl (by decide) ?_
  show Ex _ _ _ _ _ _ [_, _, _, _, _, _, _, _] _ _ _
  exact c_R_isClear_l hR hd hc ht ((mxA (rwO c t) (clO c t)) - 1) 1 (by have := mxA_pos hne; omega) (by omega)
set_option maxHeartbeats 4000000 in
set_option maxRecDepth 100000 in
theorem c_M_isOpen_l {g : Gl} {d ks : Nat} {h : AH} {z s : Nat → Int32} (hM : Ms g h z s) (hd : 1 ≤ d) {c t : Nat} (hc : c < 48) (ht : t < 48) : ∀ (m k : Nat) (p : Bool), k + m = (mxA (rwO c t) (clO c t)) → 1 ≤ k → Ex g mX7_isOpen d 0 ks 34 [some (.ref (g.1 + 75)), some (.int (nI c)), some (.int (iI (rwO c t))), some (.int (iI (clO c t))), some (.int (nI (mxA (rwO c t) (clO c t)))), some (.int (bI (p = true))), some (.int (nI k)), none, none] [] h (qi (fun h' r => h' = h ∧ r = bI ((p && clrF (fun k => wll s (pcl c (rwO c t) (clO c t) k)) m k) = true))) := by
  have hm := mxA_lt hc ht
  intro m
  induction m with
  | zero =>
    intro k p hk hk1
    refine ex_iload (pc := 34) dX7_isOpen_34 rfl ?_
    refine ex_iload (pc := 36) dX7_isOpen_36 rfl ?_
    refine bx_icmp_ge_t (pc := 38) (tgt := 104) dX7_isOpen_38 (by decide) (by rw [show k = (mxA (rwO c t) (clO c t)) by omega]; exact Int32.le_refl _) ?_
    refine ex_iload (pc := 104) dX7_isOpen_104 rfl ?_
    refine ex_zret dX7_isOpen_106 rfl (by first | exact Or.inl rfl | exact Or.inr rfl | exact bI_01 _) ?_
    refine qi_mk ⟨rfl, bI_eq ?_⟩
    simp [clrF]
  | succ m ih =>
    intro k p hk hk1
    refine ex_iload (pc := 34) dX7_isOpen_34 rfl ?_
    refine ex_iload (pc := 36) dX7_isOpen_36 rfl ?_
    refine bx_icmp_ge_f (pc := 38) (tgt := 104) dX7_isOpen_38 (by decide) (nI_ge (by omega) (by omega)) ?_
    refine ex_iload_n (pc := 41) dX7_isOpen_41 rfl ?_
    refine ex_bipush (pc := 42) (v := (nI 8)) dX7_isOpen_42 (by decide) ?_
    refine ex_idiv (pc := 44) dX7_isOpen_44 (by decide) ?_
    refine ex_iload_n (pc := 45) dX7_isOpen_45 rfl ?_
    refine ex_iload (pc := 46) dX7_isOpen_46 rfl ?_
    refine ex_imul (pc := 48) dX7_isOpen_48 ?_
    refine ex_iload (pc := 49) dX7_isOpen_49 rfl ?_
    refine cx_SL2i (pc := 51) dX7_isOpen_51 lk_X7_107 rfl (Nat.le_of_ble_eq_true rfl) (Nat.le_of_ble_eq_true rfl) (by omega) (c_M_nearest _ _ (n2_ne (by omega) hm)) (fun h_51 x_51 q_51 => ?_)
    obtain ⟨e_51, rfl⟩ := q_51
    rw [e_51]
    refine ex_iadd (pc := 54) dX7_isOpen_54 ?_
    refine sx_istore (pc := 55) dX7_isOpen_55 rfl (by decide) ?_
    show Ex _ _ _ _ _ _ [_, _, _, _, _, _, _, _, _] _ _ _
    refine ex_iload_n (pc := 57) dX7_isOpen_57 rfl ?_
    refine ex_bipush (pc := 58) (v := (nI 8)) dX7_isOpen_58 (by decide) ?_
    refine ex_irem (pc := 60) dX7_isOpen_60 (by decide) ?_
    refine ex_iload_n (pc := 61) dX7_isOpen_61 rfl ?_
    refine ex_iload (pc := 62) dX7_isOpen_62 rfl ?_
    refine ex_imul (pc := 64) dX7_isOpen_64 ?_
    refine ex_iload (pc := 65) dX7_isOpen_65 rfl ?_
    refine cx_SL2i (pc := 67) dX7_isOpen_67 lk_X7_107 rfl (Nat.le_of_ble_eq_true rfl) (Nat.le_of_ble_eq_true rfl) (by omega) (c_M_nearest _ _ (n2_ne (by omega) hm)) (fun h_67 x_67 q_67 => ?_)
    obtain ⟨e_67, rfl⟩ := q_67
    rw [e_67]
    refine ex_iadd (pc := 70) dX7_isOpen_70 ?_
    refine sx_istore (pc := 71) dX7_isOpen_71 rfl (by decide) ?_
    show Ex _ _ _ _ _ _ [_, _, _, _, _, _, _, _, _] _ _ _
    refine ex_iload (pc := 73) dX7_isOpen_73 rfl ?_
    refine ex_aload_n (pc := 75) dX7_isOpen_75 rfl ?_
    refine ex_bipush (pc := 76) (v := (nI 8)) dX7_isOpen_76 (by decide) ?_
    refine ex_iload (pc := 78) dX7_isOpen_78 rfl ?_
    refine ex_imul (pc := 80) dX7_isOpen_80 ?_
    refine ex_iload (pc := 81) dX7_isOpen_81 rfl ?_
    refine ex_iadd (pc := 83) dX7_isOpen_83 ?_
    rw [g_nr hc ht (show k < _ by omega)]
    refine cx_VL1i (pc := 84) dX7_isOpen_84 lk_X7_80 hM.1 rfl (Nat.le_of_ble_eq_true rfl) (Nat.le_of_ble_eq_true rfl) (by omega) (c_M_hasWall hM (pcl_eq hc ht (show k < _ by omega)).2) (fun h_84 x_84 q_84 => ?_)
    obtain ⟨e_84, rfl⟩ := q_84
    rw [e_84]
    refine ex_if_ne (pc := 87) (tgt := 94) dX7_isOpen_87 (by decide) (fun c_87 => ?_) (fun c_87 => ?_)
    · skip
      refine ex_iconst (pc := 94) (v := (nI 0)) dX7_isOpen_94 (by decide) ?_
      refine ex_iand (pc := 95) dX7_isOpen_95 ?_
      first | rw [bI_a1] | rw [bI_a0]
      refine sx_istore (pc := 96) dX7_isOpen_96 rfl (by decide) ?_
      show Ex _ _ _ _ _ _ [_, _, _, _, _, _, _, _, _] _ _ _
      first | refine sx_inc (pc := 98) dX7_isOpen_98 rfl rfl (by decide) ?_ | refine sx_iinc (pc := 98) dX7_isOpen_98 rfl rfl (by decide) ?_
      show Ex _ _ _ _ _ _ [_, _, _, _, _, _, _, _, _] _ _ _
      refine ex_goto (pc := 101) (tgt := 34) dX7_isOpen_101 (by decide) ?_
      simp only [bI_0] at c_87
      first | (refine Ex.drop (als' := [some (.ref (g.1 + 75)), some (.int (nI c)), some (.int (iI (rwO c t))), some (.int (iI (clO c t))), some (.int (nI (mxA (rwO c t) (clO c t)))), some (.int (bI (p = true))), some (.int (nI (k + 1))), none, none]) (dropL_ _ _ ?_) ?_; (· simp only [subL, and_true, true_and]; done); refine (ih (k + 1) p (by omega) (by omega)).mono (fun h' r hq => ?_); clear ih; obtain ⟨x, rfl, rfl, rfl⟩ := hq; refine qi_mk ⟨rfl, bI_eq ?_⟩; simp_all [clrF, wll]) | (refine Ex.drop (als' := [some (.ref (g.1 + 75)), some (.int (nI c)), some (.int (iI (rwO c t))), some (.int (iI (clO c t))), some (.int (nI (mxA (rwO c t) (clO c t)))), some (.int (bI (false = true))), some (.int (nI (k + 1))), none, none]) (dropL_ _ _ ?_) ?_; (· simp only [subL, and_true, true_and]; done); refine (ih (k + 1) false (by omega) (by omega)).mono (fun h' r hq => ?_); clear ih; obtain ⟨x, rfl, rfl, rfl⟩ := hq; refine qi_mk ⟨rfl, bI_eq ?_⟩; simp_all [clrF, wll])
    · skip
      refine ex_iconst (pc := 90) (v := (nI 1)) dX7_isOpen_90 (by decide) ?_
      refine ex_goto (pc := 91) (tgt := 95) dX7_isOpen_91 (by decide) ?_
      refine ex_iand (pc := 95) dX7_isOpen_95 ?_
      first | rw [bI_a1] | rw [bI_a0]
      refine sx_istore (pc := 96) dX7_isOpen_96 rfl (by decide) ?_
      show Ex _ _ _ _ _ _ [_, _, _, _, _, _, _, _, _] _ _ _
      first | refine sx_inc (pc := 98) dX7_isOpen_98 rfl rfl (by decide) ?_ | refine sx_iinc (pc := 98) dX7_isOpen_98 rfl rfl (by decide) ?_
      show Ex _ _ _ _ _ _ [_, _, _, _, _, _, _, _, _] _ _ _
      refine ex_goto (pc := 101) (tgt := 34) dX7_isOpen_101 (by decide) ?_
      simp only [bI_0] at c_87
      first | (refine Ex.drop (als' := [some (.ref (g.1 + 75)), some (.int (nI c)), some (.int (iI (rwO c t))), some (.int (iI (clO c t))), some (.int (nI (mxA (rwO c t) (clO c t)))), some (.int (bI (p = true))), some (.int (nI (k + 1))), none, none]) (dropL_ _ _ ?_) ?_; (· simp only [subL, and_true, true_and]; done); refine (ih (k + 1) p (by omega) (by omega)).mono (fun h' r hq => ?_); clear ih; obtain ⟨x, rfl, rfl, rfl⟩ := hq; refine qi_mk ⟨rfl, bI_eq ?_⟩; simp_all [clrF, wll]) | (refine Ex.drop (als' := [some (.ref (g.1 + 75)), some (.int (nI c)), some (.int (iI (rwO c t))), some (.int (iI (clO c t))), some (.int (nI (mxA (rwO c t) (clO c t)))), some (.int (bI (false = true))), some (.int (nI (k + 1))), none, none]) (dropL_ _ _ ?_) ?_; (· simp only [subL, and_true, true_and]; done); refine (ih (k + 1) false (by omega) (by omega)).mono (fun h' r hq => ?_); clear ih; obtain ⟨x, rfl, rfl, rfl⟩ := hq; refine qi_mk ⟨rfl, bI_eq ?_⟩; simp_all [clrF, wll])
set_option maxHeartbeats 4000000 in
set_option maxRecDepth 100000 in
theorem c_M_isOpen {g : Gl} {d ks : Nat} {h : AH} {z s : Nat → Int32} (hM : Ms g h z s) (hd : 1 ≤ d) {c t : Nat} (hc : c < 48) (ht : t < 48) (hne : ¬ t = c) : Ex g mX7_isOpen d 0 ks 0 [some (.ref (g.1 + 75)), some (.int (nI c)), some (.int (iI (rwO c t))), some (.int (iI (clO c t))), none, none, none, none, none] [] h (qi (fun h' r => h' = h ∧ r = bI (clrF (fun k => wll s (pcl c (rwO c t) (clO c t) k)) ((mxA (rwO c t) (clO c t)) - 1) 1 = true))) := by
  refine ex_iload_n (pc := 0) dX7_isOpen_0 rfl ?_
  refine ex_iconst (pc := 1) (v := (nI 0)) dX7_isOpen_1 (by decide) ?_
  refine cx_SL2i (pc := 2) dX7_isOpen_2 lk_X7_104 rfl (Nat.le_of_ble_eq_true rfl) (Nat.le_of_ble_eq_true rfl) (by omega) (c_M_off _ _) (fun h_2 x_2 q_2 => ?_)
  obtain ⟨e_2, rfl⟩ := q_2
  rw [e_2]
  refine ex_iload_n (pc := 5) dX7_isOpen_5 rfl ?_
  refine ex_iconst (pc := 6) (v := (nI 0)) dX7_isOpen_6 (by decide) ?_
  refine cx_SL2i (pc := 7) dX7_isOpen_7 lk_X7_104 rfl (Nat.le_of_ble_eq_true rfl) (Nat.le_of_ble_eq_true rfl) (by omega) (c_M_off _ _) (fun h_7 x_7 q_7 => ?_)
  obtain ⟨e_7, rfl⟩ := q_7
  rw [e_7]
  refine ex_icmp_le (pc := 10) (tgt := 21) dX7_isOpen_10 (by decide) (fun c_10 => ?_) (fun c_10 => ?_)
  · skip
    refine ex_iload_n (pc := 21) dX7_isOpen_21 rfl ?_
    refine ex_iconst (pc := 22) (v := (nI 0)) dX7_isOpen_22 (by decide) ?_
    refine cx_SL2i (pc := 23) dX7_isOpen_23 lk_X7_104 rfl (Nat.le_of_ble_eq_true rfl) (Nat.le_of_ble_eq_true rfl) (by omega) (c_M_off _ _) (fun h_23 x_23 q_23 => ?_)
    obtain ⟨e_23, rfl⟩ := q_23
    rw [e_23]
    have e_26 := g_mo hc ht
    first | rw [if_pos c_10] at e_26 | rw [if_neg (Int32.not_lt.mpr c_10)] at e_26 | rw [if_neg c_10] at e_26 | rw [if_pos (Int32.not_le.mp c_10)] at e_26
    rw [e_26]
    refine sx_istore (pc := 26) dX7_isOpen_26 rfl (by decide) ?_
    show Ex _ _ _ _ _ _ [_, _, _, _, _, _, _, _, _] _ _ _
    refine ex_iconst (pc := 28) (v := (nI 1)) dX7_isOpen_28 (by decide) ?_
    refine sx_istore (pc := 29) dX7_isOpen_29 rfl (by decide) ?_
    show Ex _ _ _ _ _ _ [_, _, _, _, _, _, _, _, _] _ _ _
    refine ex_iconst (pc := 31) (v := (nI 1)) dX7_isOpen_31 (by decide) ?_
    refine sx_istore (pc := 32) dX7_isOpen_32 rfl (by decide) ?_
    show Ex _ _ _ _ _ _ [_, _, _, _, _, _, _, _, _] _ _ _
    refine (c_M_isOpen_l hM hd hc ht ((mxA (rwO c t) (clO c t)) - 1) 1 true (by have := mxA_pos hne; omega) (by omega)).mono (fun h' r hq => ?_)
    obtain ⟨x, rfl, rfl, rfl⟩ := hq
    refine qi_mk ⟨rfl, bI_eq ?_⟩
    simp
  · skip
    refine ex_iload_n (pc := 13) dX7_isOpen_13 rfl ?_
    refine ex_iconst (pc := 14) (v := (nI 0)) dX7_isOpen_14 (by decide) ?_
    refine cx_SL2i (pc := 15) dX7_isOpen_15 lk_X7_104 rfl (Nat.le_of_ble_eq_true rfl) (Nat.le_of_ble_eq_true rfl) (by omega) (c_M_off _ _) (fun h_15 x_15 q_15 => ?_)
    obtain ⟨e_15, rfl⟩ := q_15
    rw [e_15]
    refine ex_goto (pc := 18) (tgt := 26) dX7_isOpen_18 (by decide) ?_
    have e_26 := g_mo hc ht
    first | rw [if_pos c_10] at e_26 | rw [if_neg (Int32.not_lt.mpr c_10)] at e_26 | rw [if_neg c_10] at e_26 | rw [if_pos (Int32.not_le.mp c_10)] at e_26
    rw [e_26]
    refine sx_istore (pc := 26) dX7_isOpen_26 rfl (by decide) ?_
    show Ex _ _ _ _ _ _ [_, _, _, _, _, _, _, _, _] _ _ _
    refine ex_iconst (pc := 28) (v := (nI 1)) dX7_isOpen_28 (by decide) ?_
    refine sx_istore (pc := 29) dX7_isOpen_29 rfl (by decide) ?_
    show Ex _ _ _ _ _ _ [_, _, _, _, _, _, _, _, _] _ _ _
    refine ex_iconst (pc := 31) (v := (nI 1)) dX7_isOpen_31 (by decide) ?_
    refine sx_istore (pc := 32) dX7_isOpen_32 rfl (by decide) ?_
    show Ex _ _ _ _ _ _ [_, _, _, _, _, _, _, _, _] _ _ _
    refine (c_M_isOpen_l hM hd hc ht ((mxA (rwO c t) (clO c t)) - 1) 1 true (by have := mxA_pos hne; omega) (by omega)).mono (fun h' r hq => ?_)
    obtain ⟨x, rfl, rfl, rfl⟩ := hq
    refine qi_mk ⟨rfl, bI_eq ?_⟩
    simp
set_option maxHeartbeats 4000000 in
set_option maxRecDepth 100000 in
theorem c_R_isInSight {g : Gl} {d ks : Nat} {h : AH} {b n : Nat} {s : Nat → Int32} (hR : RoomB g h b s n) (hd : 2 ≤ d) {c t : Nat} (hc : c < 48) (ht : t < 48) {q : Nat} {kd si ti : Int32} (he : h[q]? = some (po kd (nI c) si ti)) (rc : Int32) : Ex g mX2_isInSight d 0 ks 0 [some (.ref (g.1 + b)), some (.ref (g.1 + q)), some (.int (nI t)), some (.int rc), none, none] [] h (qi (fun h' r => h' = h ∧ r = bI (seeS s kd si c rc t = true))) := by
  refine ex_iload_n (pc := 0) dX2_isInSight_0 rfl ?_
  refine ex_aload_n (pc := 1) dX2_isInSight_1 rfl ?_
  refine ex_get (pc := 2) dX2_isInSight_2 fl_X2_64 he rfl ?_
  refine ex_icmp_ne (pc := 5) (tgt := 10) dX2_isInSight_5 (by decide) (fun c_5 => ?_) (fun c_5 => ?_)
  · skip
    refine ex_aload_n (pc := 10) dX2_isInSight_10 rfl ?_
    refine ex_iload_n (pc := 11) dX2_isInSight_11 rfl ?_
    refine cx_VL1i (pc := 12) dX2_isInSight_12 lk_X2_68 hR.1 rfl (Nat.le_of_ble_eq_true rfl) (Nat.le_of_ble_eq_true rfl) (by omega) (c_R_hasWall hR ht) (fun h_12 x_12 q_12 => ?_)
    obtain ⟨e_12, rfl⟩ := q_12
    rw [e_12]
    refine ex_if_eq (pc := 15) (tgt := 20) dX2_isInSight_15 (by decide) (fun c_15 => ?_) (fun c_15 => ?_)
    · skip
      refine ex_iload_n (pc := 20) dX2_isInSight_20 rfl ?_
      refine ex_bipush (pc := 21) (v := (nI 8)) dX2_isInSight_21 (by decide) ?_
      refine ex_idiv (pc := 23) dX2_isInSight_23 (by decide) ?_
      refine ex_aload_n (pc := 24) dX2_isInSight_24 rfl ?_
      refine ex_get (pc := 25) dX2_isInSight_25 fl_X2_64 he rfl ?_
      refine ex_bipush (pc := 28) (v := (nI 8)) dX2_isInSight_28 (by decide) ?_
      refine ex_idiv (pc := 30) dX2_isInSight_30 (by decide) ?_
      refine ex_isub (pc := 31) dX2_isInSight_31 ?_
      rw [rw32 hc ht]
      refine sx_istore (pc := 32) dX2_isInSight_32 rfl (by decide) ?_
      show Ex _ _ _ _ _ _ [_, _, _, _, _, _] _ _ _
      refine ex_iload_n (pc := 34) dX2_isInSight_34 rfl ?_
      refine ex_bipush (pc := 35) (v := (nI 8)) dX2_isInSight_35 (by decide) ?_
      refine ex_irem (pc := 37) dX2_isInSight_37 (by decide) ?_
      refine ex_aload_n (pc := 38) dX2_isInSight_38 rfl ?_
      refine ex_get (pc := 39) dX2_isInSight_39 fl_X2_64 he rfl ?_
      refine ex_bipush (pc := 42) (v := (nI 8)) dX2_isInSight_42 (by decide) ?_
      refine ex_irem (pc := 44) dX2_isInSight_44 (by decide) ?_
      refine ex_isub (pc := 45) dX2_isInSight_45 ?_
      rw [cl32 hc ht]
      refine sx_istore (pc := 46) dX2_isInSight_46 rfl (by decide) ?_
      show Ex _ _ _ _ _ _ [_, _, _, _, _, _] _ _ _
      refine ex_iload (pc := 48) dX2_isInSight_48 rfl ?_
      refine cx_SL1i (pc := 50) dX2_isInSight_50 lk_X2_112 rfl (Nat.le_of_ble_eq_true rfl) (Nat.le_of_ble_eq_true rfl) (by omega) (c_abs _) (fun h_50 x_50 q_50 => ?_)
      obtain ⟨e_50, rfl⟩ := q_50
      rw [e_50]
      refine ex_iload (pc := 53) dX2_isInSight_53 rfl ?_
      refine cx_SL1i (pc := 55) dX2_isInSight_55 lk_X2_112 rfl (Nat.le_of_ble_eq_true rfl) (Nat.le_of_ble_eq_true rfl) (by omega) (c_abs _) (fun h_55 x_55 q_55 => ?_)
      obtain ⟨e_55, rfl⟩ := q_55
      rw [e_55]
      refine ex_iadd (pc := 58) dX2_isInSight_58 ?_
      refine ex_iload_n (pc := 59) dX2_isInSight_59 rfl ?_
      refine ex_icmp_gt (pc := 60) (tgt := 93) dX2_isInSight_60 (by decide) (fun c_60 => ?_) (fun c_60 => ?_)
      · skip
        refine ex_iconst (pc := 93) (v := 0) dX2_isInSight_93 (by decide) ?_
        refine ex_zret dX2_isInSight_94 rfl (by first | exact Or.inl rfl | exact Or.inr rfl | exact bI_01 _) ?_
        refine qi_mk ⟨rfl, ?_⟩
        have e0 : (nI t = nI c) ↔ t = c := nI_eq (by omega) (by omega)
        try simp only [bI_0] at *
        simp_all [seeS, bI, wll]
        all_goals grind
      · skip
        refine ex_aload_n (pc := 63) dX2_isInSight_63 rfl ?_
        refine ex_iload (pc := 64) dX2_isInSight_64 rfl ?_
        refine ex_iload (pc := 66) dX2_isInSight_66 rfl ?_
        refine cx_VL2i (pc := 68) dX2_isInSight_68 lk_X2_117 he rfl (Nat.le_of_ble_eq_true rfl) (Nat.le_of_ble_eq_true rfl) (by omega) (c_P_looksAt he (by omega) _ _) (fun h_68 x_68 q_68 => ?_)
        obtain ⟨e_68, rfl⟩ := q_68
        rw [e_68]
        refine ex_if_eq (pc := 71) (tgt := 93) dX2_isInSight_71 (by decide) (fun c_71 => ?_) (fun c_71 => ?_)
        · skip
          refine ex_iconst (pc := 93) (v := 0) dX2_isInSight_93 (by decide) ?_
          refine ex_zret dX2_isInSight_94 rfl (by first | exact Or.inl rfl | exact Or.inr rfl | exact bI_01 _) ?_
          refine qi_mk ⟨rfl, ?_⟩
          have e0 : (nI t = nI c) ↔ t = c := nI_eq (by omega) (by omega)
          try simp only [bI_0] at *
          simp_all [seeS, bI, wll]
          all_goals grind
        · skip
          refine ex_aload_n (pc := 74) dX2_isInSight_74 rfl ?_
          refine ex_aload_n (pc := 75) dX2_isInSight_75 rfl ?_
          refine ex_get (pc := 76) dX2_isInSight_76 fl_X2_64 he rfl ?_
          refine ex_iload (pc := 79) dX2_isInSight_79 rfl ?_
          refine ex_iload (pc := 81) dX2_isInSight_81 rfl ?_
          refine cx_VL3i (pc := 83) dX2_isInSight_83 lk_X2_121 hR.1 rfl (Nat.le_of_ble_eq_true rfl) (Nat.le_of_ble_eq_true rfl) (by omega) (c_R_isClear hR (by omega) hc ht (fun z => c_5 (by rw [z]))) (fun h_83 x_83 q_83 => ?_)
          obtain ⟨e_83, rfl⟩ := q_83
          rw [e_83]
          refine ex_if_eq (pc := 86) (tgt := 93) dX2_isInSight_86 (by decide) (fun c_86 => ?_) (fun c_86 => ?_)
          · skip
            refine ex_iconst (pc := 93) (v := 0) dX2_isInSight_93 (by decide) ?_
            refine ex_zret dX2_isInSight_94 rfl (by first | exact Or.inl rfl | exact Or.inr rfl | exact bI_01 _) ?_
            refine qi_mk ⟨rfl, ?_⟩
            have e0 : (nI t = nI c) ↔ t = c := nI_eq (by omega) (by omega)
            try simp only [bI_0] at *
            simp_all [seeS, bI, wll]
            all_goals grind
          · skip
            refine ex_iconst (pc := 89) (v := 1) dX2_isInSight_89 (by decide) ?_
            refine ex_goto (pc := 90) (tgt := 94) dX2_isInSight_90 (by decide) ?_
            refine ex_zret dX2_isInSight_94 rfl (by first | exact Or.inl rfl | exact Or.inr rfl | exact bI_01 _) ?_
            refine qi_mk ⟨rfl, ?_⟩
            have e0 : (nI t = nI c) ↔ t = c := nI_eq (by omega) (by omega)
            try simp only [bI_0] at *
            simp_all [seeS, bI, wll]
            all_goals grind
    · skip
      refine ex_iconst (pc := 18) (v := 0) dX2_isInSight_18 (by decide) ?_
      refine ex_zret dX2_isInSight_19 rfl (by first | exact Or.inl rfl | exact Or.inr rfl | exact bI_01 _) ?_
      refine qi_mk ⟨rfl, ?_⟩
      have e0 : (nI t = nI c) ↔ t = c := nI_eq (by omega) (by omega)
      try simp only [bI_0] at *
      simp_all [seeS, bI, wll]
      all_goals grind
  · skip
    refine ex_iconst (pc := 8) (v := 1) dX2_isInSight_8 (by decide) ?_
    refine ex_zret dX2_isInSight_9 rfl (by first | exact Or.inl rfl | exact Or.inr rfl | exact bI_01 _) ?_
    refine qi_mk ⟨rfl, ?_⟩
    have e0 : (nI t = nI c) ↔ t = c := nI_eq (by omega) (by omega)
    try simp only [bI_0] at *
    simp_all [seeS, bI, wll]
    all_goals grind
set_option maxHeartbeats 4000000 in
set_option maxRecDepth 100000 in
theorem c_M_isSeen {g : Gl} {d ks : Nat} {h : AH} {z s : Nat → Int32} (hM : Ms g h z s) (hd : 2 ≤ d) {c t : Nat} (hc : c < 48) (ht : t < 48) (kd rc : Int32) {si : Nat} (hsi : si < 4) : Ex g mX7_isSeen d 0 ks 0 [some (.ref (g.1 + 75)), some (.int kd), some (.int (nI c)), some (.int (nI si)), some (.int rc), some (.int (nI t)), none, none] [] h (qi (fun h' r => h' = h ∧ r = bI (seeS s kd (nI si) c rc t = true))) := by
  refine ex_iload (pc := 0) dX7_isSeen_0 rfl ?_
  refine ex_bipush (pc := 2) (v := (nI 8)) dX7_isSeen_2 (by decide) ?_
  refine ex_idiv (pc := 4) dX7_isSeen_4 (by decide) ?_
  refine ex_iload_n (pc := 5) dX7_isSeen_5 rfl ?_
  refine ex_bipush (pc := 6) (v := (nI 8)) dX7_isSeen_6 (by decide) ?_
  refine ex_idiv (pc := 8) dX7_isSeen_8 (by decide) ?_
  refine ex_isub (pc := 9) dX7_isSeen_9 ?_
  rw [rw32 hc ht]
  refine sx_istore (pc := 10) dX7_isSeen_10 rfl (by decide) ?_
  show Ex _ _ _ _ _ _ [_, _, _, _, _, _, _, _] _ _ _
  refine ex_iload (pc := 12) dX7_isSeen_12 rfl ?_
  refine ex_bipush (pc := 14) (v := (nI 8)) dX7_isSeen_14 (by decide) ?_
  refine ex_irem (pc := 16) dX7_isSeen_16 (by decide) ?_
  refine ex_iload_n (pc := 17) dX7_isSeen_17 rfl ?_
  refine ex_bipush (pc := 18) (v := (nI 8)) dX7_isSeen_18 (by decide) ?_
  refine ex_irem (pc := 20) dX7_isSeen_20 (by decide) ?_
  refine ex_isub (pc := 21) dX7_isSeen_21 ?_
  rw [cl32 hc ht]
  refine sx_istore (pc := 22) dX7_isSeen_22 rfl (by decide) ?_
  show Ex _ _ _ _ _ _ [_, _, _, _, _, _, _, _] _ _ _
  refine ex_iload (pc := 24) dX7_isSeen_24 rfl ?_
  refine ex_iload_n (pc := 26) dX7_isSeen_26 rfl ?_
  refine ex_icmp_eq (pc := 27) (tgt := 81) dX7_isSeen_27 (by decide) (fun c_27 => ?_) (fun c_27 => ?_)
  · skip
    refine ex_iconst (pc := 81) (v := 1) dX7_isSeen_81 (by decide) ?_
    refine ex_goto (pc := 82) (tgt := 86) dX7_isSeen_82 (by decide) ?_
    refine ex_zret dX7_isSeen_86 rfl (by first | exact Or.inl rfl | exact Or.inr rfl | exact bI_01 _) ?_
    refine qi_mk ⟨rfl, ?_⟩
    have e0 : (nI t = nI c) ↔ t = c := nI_eq (by omega) (by omega)
    have e1 : ¬ t = c → lkM kd (nI si) (iI (rwO c t)) (iI (clO c t)) = lks kd (nI si) (iI (rwO c t)) (iI (clO c t)) := fun z => (lk_same hsi (rcO_rng hc ht).1 (rcO_rng hc ht).2 (by simp only [rwO, clO]; omega)).symm
    try simp only [bI_0] at *
    simp_all [seeS, bI, wll]
    all_goals grind
  · skip
    refine ex_aload_n (pc := 30) dX7_isSeen_30 rfl ?_
    refine ex_iload (pc := 31) dX7_isSeen_31 rfl ?_
    refine cx_VL1i (pc := 33) dX7_isSeen_33 lk_X7_80 hM.1 rfl (Nat.le_of_ble_eq_true rfl) (Nat.le_of_ble_eq_true rfl) (by omega) (c_M_hasWall hM ht) (fun h_33 x_33 q_33 => ?_)
    obtain ⟨e_33, rfl⟩ := q_33
    rw [e_33]
    refine ex_if_ne (pc := 36) (tgt := 85) dX7_isSeen_36 (by decide) (fun c_36 => ?_) (fun c_36 => ?_)
    · skip
      refine ex_iconst (pc := 85) (v := 0) dX7_isSeen_85 (by decide) ?_
      refine ex_zret dX7_isSeen_86 rfl (by first | exact Or.inl rfl | exact Or.inr rfl | exact bI_01 _) ?_
      refine qi_mk ⟨rfl, ?_⟩
      have e0 : (nI t = nI c) ↔ t = c := nI_eq (by omega) (by omega)
      have e1 : ¬ t = c → lkM kd (nI si) (iI (rwO c t)) (iI (clO c t)) = lks kd (nI si) (iI (rwO c t)) (iI (clO c t)) := fun z => (lk_same hsi (rcO_rng hc ht).1 (rcO_rng hc ht).2 (by simp only [rwO, clO]; omega)).symm
      try simp only [bI_0] at *
      simp_all [seeS, bI, wll]
      all_goals grind
    · skip
      refine ex_iload_n (pc := 39) dX7_isSeen_39 rfl ?_
      refine ex_iload_n (pc := 40) dX7_isSeen_40 rfl ?_
      refine ex_iload (pc := 41) dX7_isSeen_41 rfl ?_
      refine ex_iload (pc := 43) dX7_isSeen_43 rfl ?_
      refine cx_SL4i (pc := 45) dX7_isSeen_45 lk_X7_110 rfl (Nat.le_of_ble_eq_true rfl) (Nat.le_of_ble_eq_true rfl) (by omega) (c_M_looks (by omega) _ _ _ _) (fun h_45 x_45 q_45 => ?_)
      obtain ⟨e_45, rfl⟩ := q_45
      rw [e_45]
      refine ex_if_eq (pc := 48) (tgt := 85) dX7_isSeen_48 (by decide) (fun c_48 => ?_) (fun c_48 => ?_)
      · skip
        refine ex_iconst (pc := 85) (v := 0) dX7_isSeen_85 (by decide) ?_
        refine ex_zret dX7_isSeen_86 rfl (by first | exact Or.inl rfl | exact Or.inr rfl | exact bI_01 _) ?_
        refine qi_mk ⟨rfl, ?_⟩
        have e0 : (nI t = nI c) ↔ t = c := nI_eq (by omega) (by omega)
        have e1 : ¬ t = c → lkM kd (nI si) (iI (rwO c t)) (iI (clO c t)) = lks kd (nI si) (iI (rwO c t)) (iI (clO c t)) := fun z => (lk_same hsi (rcO_rng hc ht).1 (rcO_rng hc ht).2 (by simp only [rwO, clO]; omega)).symm
        try simp only [bI_0] at *
        simp_all [seeS, bI, wll]
        all_goals grind
      · skip
        refine ex_iload (pc := 51) dX7_isSeen_51 rfl ?_
        refine ex_iconst (pc := 53) (v := (nI 0)) dX7_isSeen_53 (by decide) ?_
        refine cx_SL2i (pc := 54) dX7_isSeen_54 lk_X7_104 rfl (Nat.le_of_ble_eq_true rfl) (Nat.le_of_ble_eq_true rfl) (by omega) (c_M_off _ _) (fun h_54 x_54 q_54 => ?_)
        obtain ⟨e_54, rfl⟩ := q_54
        rw [e_54]
        refine ex_iload (pc := 57) dX7_isSeen_57 rfl ?_
        refine ex_iconst (pc := 59) (v := (nI 0)) dX7_isSeen_59 (by decide) ?_
        refine cx_SL2i (pc := 60) dX7_isSeen_60 lk_X7_104 rfl (Nat.le_of_ble_eq_true rfl) (Nat.le_of_ble_eq_true rfl) (by omega) (c_M_off _ _) (fun h_60 x_60 q_60 => ?_)
        obtain ⟨e_60, rfl⟩ := q_60
        rw [e_60]
        refine ex_iadd (pc := 63) dX7_isSeen_63 ?_
        rw [g_ao hc ht]
        refine ex_iload (pc := 64) dX7_isSeen_64 rfl ?_
        refine ex_icmp_gt (pc := 66) (tgt := 85) dX7_isSeen_66 (by decide) (fun c_66 => ?_) (fun c_66 => ?_)
        · skip
          refine ex_iconst (pc := 85) (v := 0) dX7_isSeen_85 (by decide) ?_
          refine ex_zret dX7_isSeen_86 rfl (by first | exact Or.inl rfl | exact Or.inr rfl | exact bI_01 _) ?_
          refine qi_mk ⟨rfl, ?_⟩
          have e0 : (nI t = nI c) ↔ t = c := nI_eq (by omega) (by omega)
          have e1 : ¬ t = c → lkM kd (nI si) (iI (rwO c t)) (iI (clO c t)) = lks kd (nI si) (iI (rwO c t)) (iI (clO c t)) := fun z => (lk_same hsi (rcO_rng hc ht).1 (rcO_rng hc ht).2 (by simp only [rwO, clO]; omega)).symm
          try simp only [bI_0] at *
          simp_all [seeS, bI, wll]
          all_goals grind
        · skip
          refine ex_aload_n (pc := 69) dX7_isSeen_69 rfl ?_
          refine ex_iload_n (pc := 70) dX7_isSeen_70 rfl ?_
          refine ex_iload (pc := 71) dX7_isSeen_71 rfl ?_
          refine ex_iload (pc := 73) dX7_isSeen_73 rfl ?_
          refine cx_VL3i (pc := 75) dX7_isSeen_75 lk_X7_114 hM.1 rfl (Nat.le_of_ble_eq_true rfl) (Nat.le_of_ble_eq_true rfl) (by omega) (c_M_isOpen hM (by omega) hc ht (fun z => c_27 (by rw [z]))) (fun h_75 x_75 q_75 => ?_)
          obtain ⟨e_75, rfl⟩ := q_75
          rw [e_75]
          refine ex_if_eq (pc := 78) (tgt := 85) dX7_isSeen_78 (by decide) (fun c_78 => ?_) (fun c_78 => ?_)
          · skip
            refine ex_iconst (pc := 85) (v := 0) dX7_isSeen_85 (by decide) ?_
            refine ex_zret dX7_isSeen_86 rfl (by first | exact Or.inl rfl | exact Or.inr rfl | exact bI_01 _) ?_
            refine qi_mk ⟨rfl, ?_⟩
            have e0 : (nI t = nI c) ↔ t = c := nI_eq (by omega) (by omega)
            have e1 : ¬ t = c → lkM kd (nI si) (iI (rwO c t)) (iI (clO c t)) = lks kd (nI si) (iI (rwO c t)) (iI (clO c t)) := fun z => (lk_same hsi (rcO_rng hc ht).1 (rcO_rng hc ht).2 (by simp only [rwO, clO]; omega)).symm
            try simp only [bI_0] at *
            simp_all [seeS, bI, wll]
            all_goals grind
          · skip
            refine ex_iconst (pc := 81) (v := 1) dX7_isSeen_81 (by decide) ?_
            refine ex_goto (pc := 82) (tgt := 86) dX7_isSeen_82 (by decide) ?_
            refine ex_zret dX7_isSeen_86 rfl (by first | exact Or.inl rfl | exact Or.inr rfl | exact bI_01 _) ?_
            refine qi_mk ⟨rfl, ?_⟩
            have e0 : (nI t = nI c) ↔ t = c := nI_eq (by omega) (by omega)
            have e1 : ¬ t = c → lkM kd (nI si) (iI (rwO c t)) (iI (clO c t)) = lks kd (nI si) (iI (rwO c t)) (iI (clO c t)) := fun z => (lk_same hsi (rcO_rng hc ht).1 (rcO_rng hc ht).2 (by simp only [rwO, clO]; omega)).symm
            try simp only [bI_0] at *
            simp_all [seeS, bI, wll]
            all_goals grind

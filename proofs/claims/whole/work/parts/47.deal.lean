/-! posts are dealt -/
/-- the class's own object -/
def wtC (g : Gl) (ik wc : Int32) : va_E := ob 6 [.ref (g.1 + 1), .ref (g.1 + 13), .int ik, .ref (g.1 + 25), .ref (g.1 + 37), .ref (g.1 + 38), .ref (g.1 + 39), .ref (g.1 + 40), .ref (g.1 + 44), .ref (g.1 + 45), .ref (g.1 + 46), .int wc]
/-- what dealing m posts makes of a room with n, and how many came -/
noncomputable def dlS : Nat → (Nat → Int32) → Nat → (Nat → Int32) × Nat
  | 0, s, _ => (s, 0)
  | m + 1, s, n => if n < 8 then (match dpC s n with
    | none => (dr4 s, 0)
    | some j => ((dlS m (dpT s n (some j)) (n + 1)).1, (dlS m (dpT s n (some j)) (n + 1)).2 + 1)) else (s, 0)
theorem dlS_min : ∀ (m : Nat) (s : Nat → Int32) (n : Nat), dlS m s n = dlS (min m (8 - n)) s n := by
  intro m
  induction m with
  | zero => intro s n; rw [Nat.zero_min]
  | succ m ih =>
    intro s n
    by_cases hn : n < 8
    · rw [show min (m + 1) (8 - n) = min m (8 - (n + 1)) + 1 by omega, dlS, dlS, if_pos hn, if_pos hn]
      cases dpC s n with
      | none => rfl
      | some j => simp only []; rw [ih]
    · rw [show min (m + 1) (8 - n) = 0 by omega, dlS, dlS, if_neg hn]
set_option maxHeartbeats 4000000 in
set_option maxRecDepth 100000 in
theorem c_W_deal_l {g : Gl} {d ks : Nat} {h : AH} {ik wc N : Int32} {K : Nat} (hK : K ≤ 8) (hd : 3 ≤ d) : ∀ (m k n : Nat) (s : Nat → Int32) (h1 : AH), h1[0]? = some (wtC g ik wc) → RoomB g h1 1 s n → FrX (rmX 1) g h h1 → k + m = K → n + m ≤ 8 → Ex g mX6_deal d 0 ks 31 [some (.ref (g.1 + 0)), some (.int N), some (.int (nI K)), some (.int (nI k))] [] h1 (qi (fun h' r => (RoomB g h' 1 (dlS m s n).1 (n + (dlS m s n).2) ∧ FrX (rmX 1) g h h') ∧ r = nI (k + (dlS m s n).2))) := by
  intro m
  induction m with
  | zero =>
    intro k n s h1 hW hR hF hk hn
    refine ex_iload_n (pc := 31) dX6_deal_31 rfl ?_
    refine ex_iload_n (pc := 32) dX6_deal_32 rfl ?_
    refine bx_icmp_ge_t (pc := 33) (tgt := 54) dX6_deal_33 (by decide) (by rw [show k = K by omega]; exact Int32.le_refl _) ?_
    refine ex_iload_n (pc := 54) dX6_deal_54 rfl ?_
    refine ex_ret dX6_deal_55 rfl ?_
    obtain rfl : k = K := by omega
    exact qi_mk ⟨⟨hR, hF⟩, rfl⟩
  | succ m ih =>
    intro k n s h1 hW hR hF hk hn
    cases hc : dpC s n with
    | none =>
      refine ex_iload_n (pc := 31) dX6_deal_31 rfl ?_
      refine ex_iload_n (pc := 32) dX6_deal_32 rfl ?_
      refine bx_icmp_ge_f (pc := 33) (tgt := 54) dX6_deal_33 (by decide) (nI_ge (by omega) (by omega)) ?_
      refine ex_aload_n (pc := 36) dX6_deal_36 rfl ?_
      refine ex_get (pc := 37) dX6_deal_37 fl_X6_10 hW rfl ?_
      refine cx_VL0i (pc := 40) dX6_deal_40 lk_X6_171 hR.1 rfl (Nat.le_of_ble_eq_true rfl) (Nat.le_of_ble_eq_true rfl) (by omega) (c_R_drawPost hR (by omega) (by omega) (by omega)) (fun h_40 x_40 q_40 => ?_)
      obtain ⟨⟨r1, u1⟩, e_40⟩ := q_40
      rw [e_40]
      have e0 : bI ((dpC s n).isSome = true) = 0 := by rw [hc]; exact bI_f (by decide)
      refine bx_if_ne_f (pc := 43) (tgt := 48) dX6_deal_43 (by decide) (e0) ?_
      refine ex_iload_n (pc := 46) dX6_deal_46 rfl ?_
      refine ex_ret dX6_deal_47 rfl ?_
      rw [hc] at r1
      have e : dlS (m + 1) s n = (dr4 s, 0) := by rw [dlS, if_pos (by omega), hc]
      rw [e]
      exact qi_mk ⟨⟨r1, hF.tr u1⟩, rfl⟩
    | some j =>
      refine ex_iload_n (pc := 31) dX6_deal_31 rfl ?_
      refine ex_iload_n (pc := 32) dX6_deal_32 rfl ?_
      refine bx_icmp_ge_f (pc := 33) (tgt := 54) dX6_deal_33 (by decide) (nI_ge (by omega) (by omega)) ?_
      refine ex_aload_n (pc := 36) dX6_deal_36 rfl ?_
      refine ex_get (pc := 37) dX6_deal_37 fl_X6_10 hW rfl ?_
      refine cx_VL0i (pc := 40) dX6_deal_40 lk_X6_171 hR.1 rfl (Nat.le_of_ble_eq_true rfl) (Nat.le_of_ble_eq_true rfl) (by omega) (c_R_drawPost hR (by omega) (by omega) (by omega)) (fun h_40 x_40 q_40 => ?_)
      obtain ⟨⟨r1, u1⟩, e_40⟩ := q_40
      rw [e_40]
      have e0 : ¬ bI ((dpC s n).isSome = true) = 0 := by rw [hc]; exact fun z => absurd rfl (bI_0.mp z)
      refine bx_if_ne_t (pc := 43) (tgt := 48) dX6_deal_43 (by decide) (e0) ?_
      first | refine sx_inc (pc := 48) dX6_deal_48 rfl rfl (by decide) ?_ | refine sx_iinc (pc := 48) dX6_deal_48 rfl rfl (by decide) ?_
      show Ex _ _ _ _ _ _ [_, _, _, _] _ _ _
      refine ex_goto (pc := 51) (tgt := 31) dX6_deal_51 (by decide) ?_
      rw [hc] at r1
      have e : dlS (m + 1) s n = ((dlS m (dpT s n (some j)) (n + 1)).1, (dlS m (dpT s n (some j)) (n + 1)).2 + 1) := by rw [dlS, if_pos (by omega), hc]
      rw [e]
      refine (ih (k + 1) (n + 1) _ _ (u1.at (by unfold rmX; omega) (nscr (by omega)) hW) r1 (hF.tr u1) (by omega) (by omega)).mono (fun h' r a => ?_)
      obtain ⟨x, e', a1, a2⟩ := a
      refine ⟨x, e', ?_, ?_⟩
      · rw [show n + ((dlS m (dpT s n (some j)) (n + 1)).2 + 1) = n + 1 + (dlS m (dpT s n (some j)) (n + 1)).2 by omega]; exact a1
      · rw [show k + ((dlS m (dpT s n (some j)) (n + 1)).2 + 1) = k + 1 + (dlS m (dpT s n (some j)) (n + 1)).2 by omega]; exact a2
theorem mn_nI {a b : Nat} (ha : a < 2147483648) (hb : b < 2147483648) : mn32 (nI a) (nI b) = nI (min a b) := by
  unfold mn32
  by_cases e : b < a
  · rw [if_pos (nI_lt e ha), Nat.min_eq_right (by omega)]
  · rw [if_neg (nI_nlt (by omega) hb), Nat.min_eq_left (by omega)]
theorem i_18 {N : Int32} (h1 : ¬ N < nI 1) (h2 : N ≤ nI 8) : ∃ K, 1 ≤ K ∧ K ≤ 8 ∧ N = nI K := by
  obtain ⟨k, hk, rfl⟩ := nI_of (Int32.not_lt.mpr (Int32.le_trans (by decide : (0 : Int32) ≤ nI 1) (Int32.not_lt.mp h1)))
  refine ⟨k, ?_, ?_, rfl⟩
  · exact Nat.not_lt.mp (fun z => h1 (nI_lt z (by decide)))
  · exact Nat.not_lt.mp (fun z => absurd (nI_lt z hk) (Int32.not_lt.mpr h2))
abbrev deaB (N : Int32) : Prop := N < nI 1 ∨ ¬ N ≤ nI 8

set_option maxHeartbeats 4000000 in
set_option maxRecDepth 100000 in
theorem c_W_deal {g : Gl} {d ks : Nat} {h : AH} {ik wc N : Int32} {s : Nat → Int32} {n : Nat} (hW : h[0]? = some (wtC g ik wc)) (hR : RoomB g h 1 s n) (hd : 3 ≤ d) : Ex g mX6_deal d 0 ks 0 [some (.ref (g.1 + 0)), some (.int N), none, none] [] h (qi (fun h' r => (deaB N ∧ h' = h ∧ r = -1000000001) ∨ ∃ K, 1 ≤ K ∧ K ≤ 8 ∧ N = nI K ∧ (RoomB g h' 1 (dlS K s n).1 (n + (dlS K s n).2) ∧ FrX (rmX 1) g h h') ∧ r = nI ((dlS K s n).2))) := by
  refine ex_iload_n (pc := 0) dX6_deal_0 rfl ?_
  refine ex_iconst (pc := 1) (v := (nI 1)) dX6_deal_1 (by decide) ?_
  refine ex_icmp_lt (pc := 2) (tgt := 11) dX6_deal_2 (by decide) (fun c_2 => ?_) (fun c_2 => ?_)
  · skip
    refine ex_ldc (pc := 11) dX6_deal_11 cn_X6_73 ?_
    refine ex_ret dX6_deal_13 rfl ?_
    exact qi_mk (Or.inl ⟨by first | exact Or.inl c_2 | exact Or.inr c_8, rfl, rfl⟩)
  · skip
    refine ex_iload_n (pc := 5) dX6_deal_5 rfl ?_
    refine ex_bipush (pc := 6) (v := (nI 8)) dX6_deal_6 (by decide) ?_
    refine ex_icmp_le (pc := 8) (tgt := 14) dX6_deal_8 (by decide) (fun c_8 => ?_) (fun c_8 => ?_)
    · skip
      obtain ⟨K, hK1, hK2, rfl⟩ := i_18 c_2 c_8
      refine ex_iload_n (pc := 14) dX6_deal_14 rfl ?_
      refine ex_bipush (pc := 15) (v := (nI 8)) dX6_deal_15 (by decide) ?_
      refine ex_aload_n (pc := 17) dX6_deal_17 rfl ?_
      refine ex_get (pc := 18) dX6_deal_18 fl_X6_10 hW rfl ?_
      refine ex_get (pc := 21) dX6_deal_21 fl_X6_79 hR.1 rfl ?_
      refine ex_isub (pc := 24) dX6_deal_24 ?_
      refine cx_SL2i (pc := 25) dX6_deal_25 lk_X6_165 rfl (Nat.le_of_ble_eq_true rfl) (Nat.le_of_ble_eq_true rfl) (by omega) (c_min _ _) (fun h_25 x_25 q_25 => ?_)
      obtain ⟨e_25, rfl⟩ := q_25
      rw [e_25]
      rw [hR.2.1, nI_sub hR.2.2.1, mn_nI (by omega) (by omega)]
      refine sx_istore_n (pc := 28) dX6_deal_28 rfl (by decide) ?_
      show Ex _ _ _ _ _ _ [_, _, _, _] _ _ _
      refine ex_iconst (pc := 29) (v := (nI 0)) dX6_deal_29 (by decide) ?_
      refine sx_istore_n (pc := 30) dX6_deal_30 rfl (by decide) ?_
      show Ex _ _ _ _ _ _ [_, _, _, _] _ _ _
      refine (c_W_deal_l (by omega) hd (min K (8 - n)) 0 n s h hW hR FrX.rf (by omega) (by have := hR.2.2.1; omega)).mono (fun h' r a => ?_)
      obtain ⟨x, e', a1, a2⟩ := a
      rw [← dlS_min, Nat.zero_add] at a2
      rw [← dlS_min] at a1
      exact ⟨x, e', Or.inr ⟨K, hK1, hK2, rfl, a1, a2⟩⟩
    · skip
      refine ex_ldc (pc := 11) dX6_deal_11 cn_X6_73 ?_
      refine ex_ret dX6_deal_13 rfl ?_
      exact qi_mk (Or.inl ⟨by first | exact Or.inl c_2 | exact Or.inr c_8, rfl, rfl⟩)

/-! a room of the class as the row s; whose a cell is, free cells -/
def rmC (g : Gl) (b : Nat) (s : Nat → Int32) (w : Int64) : va_E := ob 2 [.ref (g.1 + (b + 1)), .int (s 0), .long w, .int (s 7), .int (s 3), .int (s 4), .int (s 5), .int (s 6), .int (s 2), .int (s 9), .ref (g.1 + (b + 2)), .int (s 1), .ref (g.1 + (b + 3))]
abbrev pS (s : Nat → Int32) (i : Nat) : va_E := po (s (10 + 4 * i + 0)) (s (10 + 4 * i + 1)) (s (10 + 4 * i + 2)) (s (10 + 4 * i + 3))
def wll (s : Nat → Int32) (c : Nat) : Bool := decide (s (42 + c) = nI 1)
def RoomB (g : Gl) (h : AH) (b : Nat) (s : Nat → Int32) (n : Nat) : Prop :=
  h[b]? = some (rmC g b s (setL (wll s) 48)) ∧ s 0 = nI n ∧ n ≤ 8 ∧ (∃ fp, h[b + 1]? = some (ra g 2 8 fp) ∧ ∀ i, i < 8 → fp i = some (g.1 + (b + 4 + i))) ∧ (∀ i, i < n → h[b + 4 + i]? = some (pS s i)) ∧ ∀ i, i < 8 → ∃ kd ce si ti, h[b + 4 + i]? = some (po kd ce si ti)
/-- the first k of some that has f k = c -/
def whoF (f : Nat → Int32) (c : Int32) : Nat → Nat → Option Nat
  | 0, _ => none
  | m + 1, k => if f k = c then some k else whoF f c m (k + 1)
def oN (e : Int32) (o : Option Nat) : Int32 := match o with
  | none => e
  | some k => nI k
abbrev ownS (s : Nat → Int32) (n : Nat) (c : Int32) : Option Nat := whoF (fun k => s (10 + 4 * k + 1)) c n 0
def fre (s : Nat → Int32) (n c : Nat) : Bool := !(wll s c) && (ownS s n (nI c)).isNone
theorem whoF_lt {f : Nat → Int32} {c : Int32} : ∀ {m k j : Nat}, whoF f c m k = some j → k ≤ j ∧ j < k + m ∧ f j = c := by
  intro m
  induction m with
  | zero => intro k j h; cases h
  | succ m ih =>
    intro k j h
    rw [whoF] at h
    by_cases hc : f k = c
    · rw [if_pos hc] at h; cases h; exact ⟨Nat.le_refl _, by omega, hc⟩
    · rw [if_neg hc] at h
      obtain ⟨h1, h2, h3⟩ := ih h
      exact ⟨by omega, by omega, h3⟩
theorem oN_neg {m k : Nat} {f : Nat → Int32} {c : Int32} (hm : k + m < 2147483648) : (oN (-1) (whoF f c m k) < 0) ↔ (whoF f c m k).isNone = true := by
  cases e : whoF f c m k with
  | none => exact ⟨fun _ => rfl, fun _ => by show (-1 : Int32) < 0; decide⟩
  | some j =>
    obtain ⟨_, h2, _⟩ := whoF_lt e
    exact ⟨fun z => absurd z (nI_pos (by omega)), fun z => by cases z⟩
theorem oN_none {m k : Nat} {f : Nat → Int32} {c : Int32} (hm : k + m < 1000000) : (oN (-1000000005) (whoF f c m k) = -1000000005) ↔ (whoF f c m k).isNone = true := by
  cases e : whoF f c m k with
  | none => exact ⟨fun _ => rfl, fun _ => rfl⟩
  | some j =>
    obtain ⟨_, h2, _⟩ := whoF_lt e
    refine ⟨fun z => ?_, fun z => by cases z⟩
    have z2 : nI j = -1000000005 := z
    have := congrArg Int32.toInt z2
    rw [nI_toInt (by omega)] at this
    have e : (-1000000005 : Int32).toInt = -1000000005 := by decide
    omega
set_option maxHeartbeats 4000000 in
set_option maxRecDepth 100000 in
theorem c_M_whose_l {g : Gl} {d ks : Nat} {h : AH} {z s : Nat → Int32} (hM : Ms g h z s) {n : Nat} (hn : s 0 = nI n) (hn8 : n ≤ 8) (hd : 1 ≤ d) (c : Int32) : ∀ (m k : Nat), k + m = n → Ex g mX7_whose d 0 ks 2 [some (.ref (g.1 + 75)), some (.int c), some (.int (nI k))] [] h (qi (fun h' r => h' = h ∧ r = oN (-1) (whoF (fun k => s (10 + 4 * k + 1)) c m k))) := by
  intro m
  induction m with
  | zero =>
    intro k hk
    refine ex_iload_n (pc := 2) dX7_whose_2 rfl ?_
    refine ex_aload_n (pc := 3) dX7_whose_3 rfl ?_
    refine ex_get (pc := 4) dX7_whose_4 fl_X7_7 hM.1 rfl ?_
    refine ex_iconst (pc := 7) (v := (nI 0)) dX7_whose_7 (by decide) ?_
    refine ex_ildn (k := 0) (pc := 8) dX7_whose_8 hM.2 (by first | rfl | (simp only [nI_add, nI_mul]; done) | (simp only [nI_add, nI_mul]; rfl)) (by omega) (by decide) ?_
    refine bx_icmp_ge_t (pc := 9) (tgt := 28) dX7_whose_9 (by decide) (by rw [hn, show k = n by omega]; exact Int32.le_refl _) ?_
    refine ex_iload_n (pc := 28) dX7_whose_28 rfl ?_
    refine ex_aload_n (pc := 29) dX7_whose_29 rfl ?_
    refine ex_get (pc := 30) dX7_whose_30 fl_X7_7 hM.1 rfl ?_
    refine ex_iconst (pc := 33) (v := (nI 0)) dX7_whose_33 (by decide) ?_
    refine ex_ildn (k := 0) (pc := 34) dX7_whose_34 hM.2 (by first | rfl | (simp only [nI_add, nI_mul]; done) | (simp only [nI_add, nI_mul]; rfl)) (by omega) (by decide) ?_
    refine bx_icmp_ge_t (pc := 35) (tgt := 42) dX7_whose_35 (by decide) (by rw [hn, show k = n by omega]; exact Int32.le_refl _) ?_
    refine ex_iconst (pc := 42) (v := (-1)) dX7_whose_42 (by decide) ?_
    refine ex_ret dX7_whose_43 rfl ?_
    exact qi_mk ⟨rfl, rfl⟩
  | succ m ih =>
    intro k hk
    refine ex_iload_n (pc := 2) dX7_whose_2 rfl ?_
    refine ex_aload_n (pc := 3) dX7_whose_3 rfl ?_
    refine ex_get (pc := 4) dX7_whose_4 fl_X7_7 hM.1 rfl ?_
    refine ex_iconst (pc := 7) (v := (nI 0)) dX7_whose_7 (by decide) ?_
    refine ex_ildn (k := 0) (pc := 8) dX7_whose_8 hM.2 (by first | rfl | (simp only [nI_add, nI_mul]; done) | (simp only [nI_add, nI_mul]; rfl)) (by omega) (by decide) ?_
    refine bx_icmp_ge_f (pc := 9) (tgt := 28) dX7_whose_9 (by decide) (by rw [hn]; exact nI_ge (by omega) (by omega)) ?_
    refine ex_aload_n (pc := 12) dX7_whose_12 rfl ?_
    refine ex_iload_n (pc := 13) dX7_whose_13 rfl ?_
    refine ex_iconst (pc := 14) (v := (nI 1)) dX7_whose_14 (by decide) ?_
    refine cx_VL2i (pc := 15) dX7_whose_15 lk_X7_76 hM.1 rfl (Nat.le_of_ble_eq_true rfl) (Nat.le_of_ble_eq_true rfl) (by omega) (c_M_of hM (f := 1) (by omega)) (fun h_15 x_15 q_15 => ?_)
    obtain ⟨e_15, rfl⟩ := q_15
    rw [e_15]
    refine ex_iload_n (pc := 18) dX7_whose_18 rfl ?_
    refine ex_icmp_eq (pc := 19) (tgt := 28) dX7_whose_19 (by decide) (fun c_19 => ?_) (fun c_19 => ?_)
    · skip
      refine ex_iload_n (pc := 28) dX7_whose_28 rfl ?_
      refine ex_aload_n (pc := 29) dX7_whose_29 rfl ?_
      refine ex_get (pc := 30) dX7_whose_30 fl_X7_7 hM.1 rfl ?_
      refine ex_iconst (pc := 33) (v := (nI 0)) dX7_whose_33 (by decide) ?_
      refine ex_ildn (k := 0) (pc := 34) dX7_whose_34 hM.2 (by first | rfl | (simp only [nI_add, nI_mul]; done) | (simp only [nI_add, nI_mul]; rfl)) (by omega) (by decide) ?_
      refine bx_icmp_ge_f (pc := 35) (tgt := 42) dX7_whose_35 (by decide) (by rw [hn]; exact nI_ge (by omega) (by omega)) ?_
      refine ex_iload_n (pc := 38) dX7_whose_38 rfl ?_
      refine ex_goto (pc := 39) (tgt := 43) dX7_whose_39 (by decide) ?_
      refine ex_ret dX7_whose_43 rfl ?_
      exact qi_mk ⟨rfl, by simp_all [whoF, oN]⟩
    · skip
      first | refine sx_inc (pc := 22) dX7_whose_22 rfl rfl (by decide) ?_ | refine sx_iinc (pc := 22) dX7_whose_22 rfl rfl (by decide) ?_
      show Ex _ _ _ _ _ _ [_, _, _] _ _ _
      refine ex_goto (pc := 25) (tgt := 2) dX7_whose_25 (by decide) ?_
      refine (ih (k + 1) (by omega)).mono (fun h' r hq => ?_)
      obtain ⟨x, rfl, rfl, rfl⟩ := hq
      exact qi_mk ⟨rfl, by simp_all [whoF]⟩
set_option maxHeartbeats 4000000 in
set_option maxRecDepth 100000 in
theorem c_M_whose {g : Gl} {d ks : Nat} {h : AH} {z s : Nat → Int32} (hM : Ms g h z s) {n : Nat} (hn : s 0 = nI n) (hn8 : n ≤ 8) (hd : 1 ≤ d) (c : Int32) : Ex g mX7_whose d 0 ks 0 [some (.ref (g.1 + 75)), some (.int c), none] [] h (qi (fun h' r => h' = h ∧ r = oN (-1) (ownS s n c))) := by
  refine ex_iconst (pc := 0) (v := (nI 0)) dX7_whose_0 (by decide) ?_
  refine sx_istore_n (pc := 1) dX7_whose_1 rfl (by decide) ?_
  show Ex _ _ _ _ _ _ [_, _, _] _ _ _
  exact c_M_whose_l hM hn hn8 hd c n 0 (by omega)
set_option maxHeartbeats 4000000 in
set_option maxRecDepth 100000 in
theorem c_M_isFree {g : Gl} {d ks : Nat} {h : AH} {z s : Nat → Int32} (hM : Ms g h z s) {n : Nat} (hn : s 0 = nI n) (hn8 : n ≤ 8) (hd : 2 ≤ d) {c : Nat} (hc : c < 48) : Ex g mX7_isFree d 0 ks 0 [some (.ref (g.1 + 75)), some (.int (nI c))] [] h (qi (fun h' r => h' = h ∧ r = bI (fre s n c = true))) := by
  refine ex_aload_n (pc := 0) dX7_isFree_0 rfl ?_
  refine ex_iload_n (pc := 1) dX7_isFree_1 rfl ?_
  refine cx_VL1i (pc := 2) dX7_isFree_2 lk_X7_80 hM.1 rfl (Nat.le_of_ble_eq_true rfl) (Nat.le_of_ble_eq_true rfl) (by omega) (c_M_hasWall hM hc) (fun h_2 x_2 q_2 => ?_)
  obtain ⟨e_2, rfl⟩ := q_2
  rw [e_2]
  refine ex_if_ne (pc := 5) (tgt := 20) dX7_isFree_5 (by decide) (fun c_5 => ?_) (fun c_5 => ?_)
  · skip
    refine ex_iconst (pc := 20) (v := 0) dX7_isFree_20 (by decide) ?_
    refine ex_zret dX7_isFree_21 rfl (by first | exact Or.inl rfl | exact Or.inr rfl | exact bI_01 _) ?_
    refine qi_mk ⟨rfl, ?_⟩
    simp only [bI_0] at *
    have q1 : (oN (-1) (ownS s n (nI c)) < 0) ↔ (ownS s n (nI c)).isNone = true := oN_neg (by omega)
    simp_all [fre, wll, bI]
    all_goals grind
  · skip
    refine ex_aload_n (pc := 8) dX7_isFree_8 rfl ?_
    refine ex_iload_n (pc := 9) dX7_isFree_9 rfl ?_
    refine cx_VL1i (pc := 10) dX7_isFree_10 lk_X7_84 hM.1 rfl (Nat.le_of_ble_eq_true rfl) (Nat.le_of_ble_eq_true rfl) (by omega) (c_M_whose hM hn hn8 (by omega) _) (fun h_10 x_10 q_10 => ?_)
    obtain ⟨e_10, rfl⟩ := q_10
    rw [e_10]
    refine ex_if_ge (pc := 13) (tgt := 20) dX7_isFree_13 (by decide) (fun c_13 => ?_) (fun c_13 => ?_)
    · skip
      refine ex_iconst (pc := 20) (v := 0) dX7_isFree_20 (by decide) ?_
      refine ex_zret dX7_isFree_21 rfl (by first | exact Or.inl rfl | exact Or.inr rfl | exact bI_01 _) ?_
      refine qi_mk ⟨rfl, ?_⟩
      simp only [bI_0] at *
      have q1 : (oN (-1) (ownS s n (nI c)) < 0) ↔ (ownS s n (nI c)).isNone = true := oN_neg (by omega)
      simp_all [fre, wll, bI]
      all_goals grind
    · skip
      refine ex_iconst (pc := 16) (v := 1) dX7_isFree_16 (by decide) ?_
      refine ex_goto (pc := 17) (tgt := 21) dX7_isFree_17 (by decide) ?_
      refine ex_zret dX7_isFree_21 rfl (by first | exact Or.inl rfl | exact Or.inr rfl | exact bI_01 _) ?_
      refine qi_mk ⟨rfl, ?_⟩
      simp only [bI_0] at *
      have q1 : (oN (-1) (ownS s n (nI c)) < 0) ↔ (ownS s n (nI c)).isNone = true := oN_neg (by omega)
      simp_all [fre, wll, bI]
      all_goals grind
set_option maxHeartbeats 4000000 in
set_option maxRecDepth 100000 in
theorem c_R_hasWall {g : Gl} {d ks : Nat} {h : AH} {b n : Nat} {s : Nat → Int32} (hR : RoomB g h b s n) {c : Nat} (hc : c < 48) : Ex g mX2_hasWall d 0 ks 0 [some (.ref (g.1 + b)), some (.int (nI c))] [] h (qi (fun h' r => h' = h ∧ r = bI (s (42 + c) = nI 1))) := by
  refine ex_aload_n (pc := 0) dX2_hasWall_0 rfl ?_
  refine ex_get (pc := 1) dX2_hasWall_1 fl_X2_21 hR.1 rfl ?_
  refine ex_iload_n (pc := 4) dX2_hasWall_4 rfl ?_
  refine ex_lushr (pc := 5) dX2_hasWall_5 ?_
  refine ex_lconst (pc := 6) (v := 1) dX2_hasWall_6 (by decide) ?_
  refine ex_land (pc := 7) dX2_hasWall_7 ?_
  refine ex_lconst (pc := 8) (v := 0) dX2_hasWall_8 (by decide) ?_
  refine ex_lcmp (pc := 9) dX2_hasWall_9 ?_
  refine ex_if_eq (pc := 10) (tgt := 17) dX2_hasWall_10 (by decide) (fun c_10 => ?_) (fun c_10 => ?_)
  · skip
    refine ex_iconst (pc := 17) (v := 0) dX2_hasWall_17 (by decide) ?_
    refine ex_zret dX2_hasWall_18 rfl (by first | exact Or.inl rfl | exact Or.inr rfl | exact bI_01 _) ?_
    refine qi_mk ⟨rfl, ?_⟩
    rw [lg_eq0, ushand (by omega), b48 (by omega)] at c_10
    simp_all [wll, bI]
  · skip
    refine ex_iconst (pc := 13) (v := 1) dX2_hasWall_13 (by decide) ?_
    refine ex_goto (pc := 14) (tgt := 18) dX2_hasWall_14 (by decide) ?_
    refine ex_zret dX2_hasWall_18 rfl (by first | exact Or.inl rfl | exact Or.inr rfl | exact bI_01 _) ?_
    refine qi_mk ⟨rfl, ?_⟩
    rw [lg_eq0, ushand (by omega), b48 (by omega)] at c_10
    simp_all [wll, bI]
set_option maxHeartbeats 4000000 in
set_option maxRecDepth 100000 in
theorem c_R_ownerOf_l {g : Gl} {d ks : Nat} {h : AH} {b n : Nat} {s : Nat → Int32} (hR : RoomB g h b s n) (c : Int32) : ∀ (m k : Nat), k + m = n → Ex g mX2_ownerOf d 0 ks 2 [some (.ref (g.1 + b)), some (.int c), some (.int (nI k))] [] h (qi (fun h' r => h' = h ∧ r = oN (-1000000005) (whoF (fun k => s (10 + 4 * k + 1)) c m k))) := by
  have hn8 := hR.2.2.1
  obtain ⟨fp, hfp, hfp2⟩ := hR.2.2.2.1
  intro m
  induction m with
  | zero =>
    intro k hk
    refine ex_iload_n (pc := 2) dX2_ownerOf_2 rfl ?_
    refine ex_aload_n (pc := 3) dX2_ownerOf_3 rfl ?_
    refine ex_get (pc := 4) dX2_ownerOf_4 fl_X2_17 hR.1 rfl ?_
    refine bx_icmp_ge_t (pc := 7) (tgt := 31) dX2_ownerOf_7 (by decide) (by rw [hR.2.1, show k = n by omega]; exact Int32.le_refl _) ?_
    refine ex_ldc (pc := 31) dX2_ownerOf_31 cn_X2_67 ?_
    refine ex_ret dX2_ownerOf_33 rfl ?_
    exact qi_mk ⟨rfl, rfl⟩
  | succ m ih =>
    intro k hk
    refine ex_iload_n (pc := 2) dX2_ownerOf_2 rfl ?_
    refine ex_aload_n (pc := 3) dX2_ownerOf_3 rfl ?_
    refine ex_get (pc := 4) dX2_ownerOf_4 fl_X2_17 hR.1 rfl ?_
    refine bx_icmp_ge_f (pc := 7) (tgt := 31) dX2_ownerOf_7 (by decide) (by rw [hR.2.1]; exact nI_ge (by omega) (by omega)) ?_
    refine ex_aload_n (pc := 10) dX2_ownerOf_10 rfl ?_
    refine ex_get (pc := 11) dX2_ownerOf_11 fl_X2_11 hR.1 rfl ?_
    refine ex_iload_n (pc := 14) dX2_ownerOf_14 rfl ?_
    refine ex_aldn (k := k) (v := .ref (g.1 + (b + 4 + k))) (pc := 15) dX2_ownerOf_15 rfl hfp rfl (by omega) (by decide) (congrArg va_rf (hfp2 k (by omega))) ?_
    refine ex_get (pc := 16) dX2_ownerOf_16 fl_X2_64 (hR.2.2.2.2.1 k (by omega)) rfl ?_
    refine ex_iload_n (pc := 19) dX2_ownerOf_19 rfl ?_
    refine ex_icmp_ne (pc := 20) (tgt := 25) dX2_ownerOf_20 (by decide) (fun c_20 => ?_) (fun c_20 => ?_)
    · skip
      first | refine sx_inc (pc := 25) dX2_ownerOf_25 rfl rfl (by decide) ?_ | refine sx_iinc (pc := 25) dX2_ownerOf_25 rfl rfl (by decide) ?_
      show Ex _ _ _ _ _ _ [_, _, _] _ _ _
      refine ex_goto (pc := 28) (tgt := 2) dX2_ownerOf_28 (by decide) ?_
      refine (ih (k + 1) (by omega)).mono (fun h' r hq => ?_)
      obtain ⟨x, rfl, rfl, rfl⟩ := hq
      exact qi_mk ⟨rfl, by simp_all [whoF]⟩
    · skip
      refine ex_iload_n (pc := 23) dX2_ownerOf_23 rfl ?_
      refine ex_ret dX2_ownerOf_24 rfl ?_
      exact qi_mk ⟨rfl, by simp_all [whoF, oN]⟩
set_option maxHeartbeats 4000000 in
set_option maxRecDepth 100000 in
theorem c_R_ownerOf {g : Gl} {d ks : Nat} {h : AH} {b n : Nat} {s : Nat → Int32} (hR : RoomB g h b s n) (c : Int32) : Ex g mX2_ownerOf d 0 ks 0 [some (.ref (g.1 + b)), some (.int c), none] [] h (qi (fun h' r => h' = h ∧ r = oN (-1000000005) (ownS s n c))) := by
  refine ex_iconst (pc := 0) (v := (nI 0)) dX2_ownerOf_0 (by decide) ?_
  refine sx_istore_n (pc := 1) dX2_ownerOf_1 rfl (by decide) ?_
  show Ex _ _ _ _ _ _ [_, _, _] _ _ _
  exact c_R_ownerOf_l hR c n 0 (by omega)
set_option maxHeartbeats 4000000 in
set_option maxRecDepth 100000 in
theorem c_R_isFree {g : Gl} {d ks : Nat} {h : AH} {b n : Nat} {s : Nat → Int32} (hR : RoomB g h b s n) (hd : 1 ≤ d) {c : Nat} (hc : c < 48) : Ex g mX2_isFree d 0 ks 0 [some (.ref (g.1 + b)), some (.int (nI c))] [] h (qi (fun h' r => h' = h ∧ r = bI (fre s n c = true))) := by
  refine ex_aload_n (pc := 0) dX2_isFree_0 rfl ?_
  refine ex_iload_n (pc := 1) dX2_isFree_1 rfl ?_
  refine cx_VL1i (pc := 2) dX2_isFree_2 lk_X2_68 hR.1 rfl (Nat.le_of_ble_eq_true rfl) (Nat.le_of_ble_eq_true rfl) (by omega) (c_R_hasWall hR hc) (fun h_2 x_2 q_2 => ?_)
  obtain ⟨e_2, rfl⟩ := q_2
  rw [e_2]
  refine ex_if_ne (pc := 5) (tgt := 22) dX2_isFree_5 (by decide) (fun c_5 => ?_) (fun c_5 => ?_)
  · skip
    refine ex_iconst (pc := 22) (v := 0) dX2_isFree_22 (by decide) ?_
    refine ex_zret dX2_isFree_23 rfl (by first | exact Or.inl rfl | exact Or.inr rfl | exact bI_01 _) ?_
    have hn8 := hR.2.2.1
    refine qi_mk ⟨rfl, ?_⟩
    simp only [bI_0] at *
    have q1 : (oN (-1000000005) (ownS s n (nI c)) = -1000000005) ↔ (ownS s n (nI c)).isNone = true := oN_none (by omega)
    simp_all [fre, wll, bI]
  · skip
    refine ex_aload_n (pc := 8) dX2_isFree_8 rfl ?_
    refine ex_iload_n (pc := 9) dX2_isFree_9 rfl ?_
    refine cx_VL1i (pc := 10) dX2_isFree_10 lk_X2_72 hR.1 rfl (Nat.le_of_ble_eq_true rfl) (Nat.le_of_ble_eq_true rfl) (by omega) (c_R_ownerOf hR _) (fun h_10 x_10 q_10 => ?_)
    obtain ⟨e_10, rfl⟩ := q_10
    rw [e_10]
    refine ex_ldc (pc := 13) dX2_isFree_13 cn_X2_67 ?_
    refine ex_icmp_ne (pc := 15) (tgt := 22) dX2_isFree_15 (by decide) (fun c_15 => ?_) (fun c_15 => ?_)
    · skip
      refine ex_iconst (pc := 22) (v := 0) dX2_isFree_22 (by decide) ?_
      refine ex_zret dX2_isFree_23 rfl (by first | exact Or.inl rfl | exact Or.inr rfl | exact bI_01 _) ?_
      have hn8 := hR.2.2.1
      refine qi_mk ⟨rfl, ?_⟩
      simp only [bI_0] at *
      have q1 : (oN (-1000000005) (ownS s n (nI c)) = -1000000005) ↔ (ownS s n (nI c)).isNone = true := oN_none (by omega)
      simp_all [fre, wll, bI]
    · skip
      refine ex_iconst (pc := 18) (v := 1) dX2_isFree_18 (by decide) ?_
      refine ex_goto (pc := 19) (tgt := 23) dX2_isFree_19 (by decide) ?_
      refine ex_zret dX2_isFree_23 rfl (by first | exact Or.inl rfl | exact Or.inr rfl | exact bI_01 _) ?_
      have hn8 := hR.2.2.1
      refine qi_mk ⟨rfl, ?_⟩
      simp only [bI_0] at *
      have q1 : (oN (-1000000005) (ownS s n (nI c)) = -1000000005) ↔ (ownS s n (nI c)).isNone = true := oN_none (by omega)
      simp_all [fre, wll, bI]

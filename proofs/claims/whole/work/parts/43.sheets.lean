/-! sheets of the class; the first of a set; small tests -/
abbrev shC (g : Gl) (p : Nat) (so sz : Int32) : va_E := ob 3 [.int so, .int sz, .ref (g.1 + p)]
def fstB (f : Nat → Bool) : Nat → Nat → Option Nat
  | 0, _ => none
  | m + 1, c => if f c then some c else fstB f m (c + 1)
theorem and_bit {x : Int64} {c : Nat} (hc : c < 64) : x &&& shl64 1 (nI c) = 0 ↔ bL x c = false := by
  constructor
  · intro h
    have := congrArg (fun y => bL y c) h
    simp only [bL_and, bL_bit hc hc, bL_0] at this
    simpa using this
  · intro h
    apply bL_ext
    intro i hi
    rw [bL_and, bL_bit hc hi, bL_0]
    by_cases e : i = c
    · subst e; rw [h]; rfl
    · simp [e]
set_option maxHeartbeats 4000000 in
set_option maxRecDepth 100000 in
theorem c_S_isMissing {g : Gl} {d ks : Nat} {h : AH} {q p : Nat} {so sz : Int32} (he : h[q]? = some (shC g p so sz)) : Ex g mX3_isMissing d 0 ks 0 [some (.ref (g.1 + q))] [] h (qi (fun h' r => h' = h ∧ r = bI (so = -1))) := by
  refine ex_aload_n (pc := 0) dX3_isMissing_0 rfl ?_
  refine ex_get (pc := 1) dX3_isMissing_1 fl_X3_9 he rfl ?_
  refine ex_iconst (pc := 4) (v := (-1)) dX3_isMissing_4 (by decide) ?_
  refine ex_icmp_ne (pc := 5) (tgt := 12) dX3_isMissing_5 (by decide) (fun c_5 => ?_) (fun c_5 => ?_)
  · skip
    refine ex_iconst (pc := 12) (v := 0) dX3_isMissing_12 (by decide) ?_
    refine ex_zret dX3_isMissing_13 rfl (by first | exact Or.inl rfl | exact Or.inr rfl | exact bI_01 _) ?_
    refine qi_mk ⟨rfl, ?_⟩
    first | (simp_all [bI, bI, nI_eq, nI_0]; done) | (simp_all [bI, bI, nI_eq, nI_0]; grind) | grind [bI, bI]
  · skip
    refine ex_iconst (pc := 8) (v := 1) dX3_isMissing_8 (by decide) ?_
    refine ex_goto (pc := 9) (tgt := 13) dX3_isMissing_9 (by decide) ?_
    refine ex_zret dX3_isMissing_13 rfl (by first | exact Or.inl rfl | exact Or.inr rfl | exact bI_01 _) ?_
    refine qi_mk ⟨rfl, ?_⟩
    first | (simp_all [bI, bI, nI_eq, nI_0]; done) | (simp_all [bI, bI, nI_eq, nI_0]; grind) | grind [bI, bI]
set_option maxHeartbeats 4000000 in
set_option maxRecDepth 100000 in
theorem c_S_hasPlaces {g : Gl} {d ks : Nat} {h : AH} {q p : Nat} {so sz : Int32} (he : h[q]? = some (shC g p so sz)) (a m : Int32) : Ex g mX3_hasPlaces d 0 ks 0 [some (.ref (g.1 + q)), some (.int a), some (.int m)] [] h (qi (fun h' r => h' = h ∧ r = bI (0 ≤ a ∧ 0 ≤ m ∧ a ≤ sz ∧ m ≤ sz - a))) := by
  refine ex_iload_n (pc := 0) dX3_hasPlaces_0 rfl ?_
  refine ex_if_lt (pc := 1) (tgt := 30) dX3_hasPlaces_1 (by decide) (fun c_1 => ?_) (fun c_1 => ?_)
  · skip
    refine ex_iconst (pc := 30) (v := 0) dX3_hasPlaces_30 (by decide) ?_
    refine ex_zret dX3_hasPlaces_31 rfl (by first | exact Or.inl rfl | exact Or.inr rfl | exact bI_01 _) ?_
    refine qi_mk ⟨rfl, ?_⟩
    first | (rw [bI_t (by simp only [Int32.not_lt] at *; exact ⟨by assumption, by assumption, by assumption, by assumption⟩)]; done) | (rw [bI_f (fun q => by simp only [Int32.not_lt] at *; grind)]; done) | grind [bI]
  · skip
    refine ex_iload_n (pc := 4) dX3_hasPlaces_4 rfl ?_
    refine ex_if_lt (pc := 5) (tgt := 30) dX3_hasPlaces_5 (by decide) (fun c_5 => ?_) (fun c_5 => ?_)
    · skip
      refine ex_iconst (pc := 30) (v := 0) dX3_hasPlaces_30 (by decide) ?_
      refine ex_zret dX3_hasPlaces_31 rfl (by first | exact Or.inl rfl | exact Or.inr rfl | exact bI_01 _) ?_
      refine qi_mk ⟨rfl, ?_⟩
      first | (rw [bI_t (by simp only [Int32.not_lt] at *; exact ⟨by assumption, by assumption, by assumption, by assumption⟩)]; done) | (rw [bI_f (fun q => by simp only [Int32.not_lt] at *; grind)]; done) | grind [bI]
    · skip
      refine ex_iload_n (pc := 8) dX3_hasPlaces_8 rfl ?_
      refine ex_aload_n (pc := 9) dX3_hasPlaces_9 rfl ?_
      refine ex_get (pc := 10) dX3_hasPlaces_10 fl_X3_15 he rfl ?_
      refine ex_icmp_gt (pc := 13) (tgt := 30) dX3_hasPlaces_13 (by decide) (fun c_13 => ?_) (fun c_13 => ?_)
      · skip
        refine ex_iconst (pc := 30) (v := 0) dX3_hasPlaces_30 (by decide) ?_
        refine ex_zret dX3_hasPlaces_31 rfl (by first | exact Or.inl rfl | exact Or.inr rfl | exact bI_01 _) ?_
        refine qi_mk ⟨rfl, ?_⟩
        first | (rw [bI_t (by simp only [Int32.not_lt] at *; exact ⟨by assumption, by assumption, by assumption, by assumption⟩)]; done) | (rw [bI_f (fun q => by simp only [Int32.not_lt] at *; grind)]; done) | grind [bI]
      · skip
        refine ex_iload_n (pc := 16) dX3_hasPlaces_16 rfl ?_
        refine ex_aload_n (pc := 17) dX3_hasPlaces_17 rfl ?_
        refine ex_get (pc := 18) dX3_hasPlaces_18 fl_X3_15 he rfl ?_
        refine ex_iload_n (pc := 21) dX3_hasPlaces_21 rfl ?_
        refine ex_isub (pc := 22) dX3_hasPlaces_22 ?_
        refine ex_icmp_gt (pc := 23) (tgt := 30) dX3_hasPlaces_23 (by decide) (fun c_23 => ?_) (fun c_23 => ?_)
        · skip
          refine ex_iconst (pc := 30) (v := 0) dX3_hasPlaces_30 (by decide) ?_
          refine ex_zret dX3_hasPlaces_31 rfl (by first | exact Or.inl rfl | exact Or.inr rfl | exact bI_01 _) ?_
          refine qi_mk ⟨rfl, ?_⟩
          first | (rw [bI_t (by simp only [Int32.not_lt] at *; exact ⟨by assumption, by assumption, by assumption, by assumption⟩)]; done) | (rw [bI_f (fun q => by simp only [Int32.not_lt] at *; grind)]; done) | grind [bI]
        · skip
          refine ex_iconst (pc := 26) (v := 1) dX3_hasPlaces_26 (by decide) ?_
          refine ex_goto (pc := 27) (tgt := 31) dX3_hasPlaces_27 (by decide) ?_
          refine ex_zret dX3_hasPlaces_31 rfl (by first | exact Or.inl rfl | exact Or.inr rfl | exact bI_01 _) ?_
          refine qi_mk ⟨rfl, ?_⟩
          first | (rw [bI_t (by simp only [Int32.not_lt] at *; exact ⟨by assumption, by assumption, by assumption, by assumption⟩)]; done) | (rw [bI_f (fun q => by simp only [Int32.not_lt] at *; grind)]; done) | grind [bI]
set_option maxHeartbeats 4000000 in
set_option maxRecDepth 100000 in
theorem c_S_hasNumber {g : Gl} {d ks : Nat} {h : AH} {q p n : Nat} {so : Int32} {f : Nat → Int32} (he : h[q]? = some (shC g p so (nI n))) (hp : h[p]? = some (ia g 24 f)) (hn : n ≤ 24) (hd : 1 ≤ d) {k : Nat} (hk : k < 24) : Ex g mX3_hasNumber d 0 ks 0 [some (.ref (g.1 + q)), some (.int (nI k))] [] h (qi (fun h' r => h' = h ∧ r = bI (k < n ∧ ¬ f k = -1000000005))) := by
  refine ex_iload_n (pc := 0) dX3_hasNumber_0 rfl ?_
  refine ex_aload_n (pc := 1) dX3_hasNumber_1 rfl ?_
  refine ex_get (pc := 2) dX3_hasNumber_2 fl_X3_15 he rfl ?_
  refine cx_SN2i (pc := 5) dX3_hasNumber_5 lk_X3_28 rfl (Nat.le_of_ble_eq_true rfl) (Nat.le_of_ble_eq_true rfl) (by omega) (c_isBelow _ _) (fun h_5 x_5 q_5 => ?_)
  obtain ⟨e_5, f_5⟩ := q_5
  rw [e_5, f_5]
  refine ex_if_eq (pc := 8) (tgt := 26) dX3_hasNumber_8 (by decide) (fun c_8 => ?_) (fun c_8 => ?_)
  · skip
    refine ex_iconst (pc := 26) (v := 0) dX3_hasNumber_26 (by decide) ?_
    refine ex_zret dX3_hasNumber_27 rfl (by first | exact Or.inl rfl | exact Or.inr rfl | exact bI_01 _) ?_
    refine qi_mk ⟨rfl, ?_⟩
    have e : (0 ≤ nI k ∧ nI k < nI n) ↔ k < n := ⟨fun q => (nI_ltI (by omega) (by omega)).mp q.2, fun q => ⟨nI_pos' (by omega), nI_lt q (by omega)⟩⟩
    simp only [bI_0, e, Decidable.not_not] at *
    first
    | (rw [bI_f (fun q => absurd q.1 (by assumption))]; done)
    | (rw [bI_f (fun q => q.2 (by assumption))]; done)
    | (rw [bI_t ⟨Decidable.not_not.mp (fun q => c_8 (bI_f (fun z => q (e.mp z)))), by assumption⟩]; done)
    | (simp_all [bI]; done)
    | grind [bI]
  · skip
    refine ex_aload_n (pc := 11) dX3_hasNumber_11 rfl ?_
    refine ex_get (pc := 12) dX3_hasNumber_12 fl_X3_18 he rfl ?_
    refine ex_iload_n (pc := 15) dX3_hasNumber_15 rfl ?_
    refine ex_ildn (k := k) (pc := 16) dX3_hasNumber_16 hp rfl hk (by decide) ?_
    refine ex_ldc (pc := 17) dX3_hasNumber_17 cn_X3_32 ?_
    refine ex_icmp_eq (pc := 19) (tgt := 26) dX3_hasNumber_19 (by decide) (fun c_19 => ?_) (fun c_19 => ?_)
    · skip
      refine ex_iconst (pc := 26) (v := 0) dX3_hasNumber_26 (by decide) ?_
      refine ex_zret dX3_hasNumber_27 rfl (by first | exact Or.inl rfl | exact Or.inr rfl | exact bI_01 _) ?_
      refine qi_mk ⟨rfl, ?_⟩
      have e : (0 ≤ nI k ∧ nI k < nI n) ↔ k < n := ⟨fun q => (nI_ltI (by omega) (by omega)).mp q.2, fun q => ⟨nI_pos' (by omega), nI_lt q (by omega)⟩⟩
      simp only [bI_0, e, Decidable.not_not] at *
      first
      | (rw [bI_f (fun q => absurd q.1 (by assumption))]; done)
      | (rw [bI_f (fun q => q.2 (by assumption))]; done)
      | (rw [bI_t ⟨Decidable.not_not.mp (fun q => c_8 (bI_f (fun z => q (e.mp z)))), by assumption⟩]; done)
      | (simp_all [bI]; done)
      | grind [bI]
    · skip
      refine ex_iconst (pc := 22) (v := 1) dX3_hasNumber_22 (by decide) ?_
      refine ex_goto (pc := 23) (tgt := 27) dX3_hasNumber_23 (by decide) ?_
      refine ex_zret dX3_hasNumber_27 rfl (by first | exact Or.inl rfl | exact Or.inr rfl | exact bI_01 _) ?_
      refine qi_mk ⟨rfl, ?_⟩
      have e : (0 ≤ nI k ∧ nI k < nI n) ↔ k < n := ⟨fun q => (nI_ltI (by omega) (by omega)).mp q.2, fun q => ⟨nI_pos' (by omega), nI_lt q (by omega)⟩⟩
      simp only [bI_0, e, Decidable.not_not] at *
      first
      | (rw [bI_f (fun q => absurd q.1 (by assumption))]; done)
      | (rw [bI_f (fun q => q.2 (by assumption))]; done)
      | (rw [bI_t ⟨Decidable.not_not.mp (fun q => c_8 (bI_f (fun z => q (e.mp z)))), by assumption⟩]; done)
      | (simp_all [bI]; done)
      | grind [bI]
set_option maxHeartbeats 4000000 in
set_option maxRecDepth 100000 in
theorem c_firstOf_l {g : Gl} {d ks : Nat} {h : AH} (hd : 1 ≤ d) (x : Int64) : ∀ (m k : Nat), k + m = 48 → Ex g mX6_firstOf d 0 ks 2 [some (.long x), none, some (.int (nI k))] [] h (qi (fun h' r => h' = h ∧ r = oN (-1000000005) (fstB (bL x) m k))) := by
  intro m
  induction m with
  | zero =>
    intro k hk
    refine ex_iload_n (pc := 2) dX6_firstOf_2 rfl ?_
    refine ex_bipush (pc := 3) (v := (nI 48)) dX6_firstOf_3 (by decide) ?_
    refine bx_icmp_ge_t (pc := 5) (tgt := 27) dX6_firstOf_5 (by decide) (by rw [show k = 48 by omega]; exact Int32.le_refl _) ?_
    refine ex_ldc (pc := 27) dX6_firstOf_27 cn_X6_142 ?_
    refine ex_ret dX6_firstOf_29 rfl ?_
    exact qi_mk ⟨rfl, rfl⟩
  | succ m ih =>
    intro k hk
    refine ex_iload_n (pc := 2) dX6_firstOf_2 rfl ?_
    refine ex_bipush (pc := 3) (v := (nI 48)) dX6_firstOf_3 (by decide) ?_
    refine bx_icmp_ge_f (pc := 5) (tgt := 27) dX6_firstOf_5 (by decide) (nI_ge (by omega) (by omega)) ?_
    refine ex_lload_n (pc := 8) dX6_firstOf_8 rfl ?_
    refine ex_iload_n (pc := 9) dX6_firstOf_9 rfl ?_
    refine cx_SL1l (pc := 10) dX6_firstOf_10 lk_X6_153 rfl (Nat.le_of_ble_eq_true rfl) (Nat.le_of_ble_eq_true rfl) (by omega) (c_bit _) (fun h_10 x_10 q_10 => ?_)
    obtain ⟨e_10, f_10⟩ := q_10
    rw [e_10, f_10]
    refine ex_land (pc := 13) dX6_firstOf_13 ?_
    refine ex_lconst (pc := 14) (v := 0) dX6_firstOf_14 (by decide) ?_
    refine ex_lcmp (pc := 15) dX6_firstOf_15 ?_
    refine ex_if_eq (pc := 16) (tgt := 21) dX6_firstOf_16 (by decide) (fun c_16 => ?_) (fun c_16 => ?_)
    · skip
      first | refine sx_inc (pc := 21) dX6_firstOf_21 rfl rfl (by decide) ?_ | refine sx_iinc (pc := 21) dX6_firstOf_21 rfl rfl (by decide) ?_
      show Ex _ _ _ _ _ _ [_, _, _] _ _ _
      refine ex_goto (pc := 24) (tgt := 2) dX6_firstOf_24 (by decide) ?_
      rw [lg_eq0, and_bit (by omega)] at c_16
      refine (ih (k + 1) (by omega)).mono (fun h' r z => ?_)
      obtain ⟨y, rfl, rfl, rfl⟩ := z
      refine qi_mk ⟨rfl, ?_⟩
      rw [fstB, if_neg (by rw [c_16]; decide)]
    · skip
      refine ex_iload_n (pc := 19) dX6_firstOf_19 rfl ?_
      refine ex_ret dX6_firstOf_20 rfl ?_
      refine qi_mk ⟨rfl, ?_⟩
      rw [lg_eq0, and_bit (by omega)] at c_16
      rw [fstB, if_pos (by simpa using c_16)]
      rfl
set_option maxHeartbeats 4000000 in
set_option maxRecDepth 100000 in
theorem c_firstOf {g : Gl} {d ks : Nat} {h : AH} (hd : 1 ≤ d) (x : Int64) : Ex g mX6_firstOf d 0 ks 0 [some (.long x), none, none] [] h (qi (fun h' r => h' = h ∧ r = oN (-1000000005) (fstB (bL x) 48 0))) := by
  refine ex_iconst (pc := 0) (v := (nI 0)) dX6_firstOf_0 (by decide) ?_
  refine sx_istore_n (pc := 1) dX6_firstOf_1 rfl (by decide) ?_
  show Ex _ _ _ _ _ _ [_, _, _] _ _ _
  exact c_firstOf_l hd x 48 0 (by omega)
set_option maxHeartbeats 4000000 in
set_option maxRecDepth 100000 in
theorem c_M_firstOf_l {g : Gl} {d ks : Nat} {h : AH} (x : Int64) : ∀ (m k : Nat), k + m = 48 → Ex g mX7_firstOf d 0 ks 2 [some (.long x), none, some (.int (nI k))] [] h (qi (fun h' r => h' = h ∧ r = oN (-1) (fstB (bL x) m k))) := by
  intro m
  induction m with
  | zero =>
    intro k hk
    refine ex_iload_n (pc := 2) dX7_firstOf_2 rfl ?_
    refine ex_bipush (pc := 3) (v := (nI 48)) dX7_firstOf_3 (by decide) ?_
    refine bx_icmp_ge_t (pc := 5) (tgt := 24) dX7_firstOf_5 (by decide) (by rw [show k = 48 by omega]; exact Int32.le_refl _) ?_
    refine ex_iload_n (pc := 24) dX7_firstOf_24 rfl ?_
    refine ex_bipush (pc := 25) (v := (nI 48)) dX7_firstOf_25 (by decide) ?_
    refine bx_icmp_ge_t (pc := 27) (tgt := 34) dX7_firstOf_27 (by decide) (by rw [show k = 48 by omega]; exact Int32.le_refl _) ?_
    refine ex_iconst (pc := 34) (v := (-1)) dX7_firstOf_34 (by decide) ?_
    refine ex_ret dX7_firstOf_35 rfl ?_
    exact qi_mk ⟨rfl, rfl⟩
  | succ m ih =>
    intro k hk
    refine ex_iload_n (pc := 2) dX7_firstOf_2 rfl ?_
    refine ex_bipush (pc := 3) (v := (nI 48)) dX7_firstOf_3 (by decide) ?_
    refine bx_icmp_ge_f (pc := 5) (tgt := 24) dX7_firstOf_5 (by decide) (nI_ge (by omega) (by omega)) ?_
    refine ex_lload_n (pc := 8) dX7_firstOf_8 rfl ?_
    refine ex_iload_n (pc := 9) dX7_firstOf_9 rfl ?_
    refine ex_lshr (pc := 10) dX7_firstOf_10 ?_
    refine ex_lconst (pc := 11) (v := 1) dX7_firstOf_11 (by decide) ?_
    refine ex_land (pc := 12) dX7_firstOf_12 ?_
    refine ex_lconst (pc := 13) (v := 0) dX7_firstOf_13 (by decide) ?_
    refine ex_lcmp (pc := 14) dX7_firstOf_14 ?_
    refine ex_if_ne (pc := 15) (tgt := 24) dX7_firstOf_15 (by decide) (fun c_15 => ?_) (fun c_15 => ?_)
    · skip
      refine ex_iload_n (pc := 24) dX7_firstOf_24 rfl ?_
      refine ex_bipush (pc := 25) (v := (nI 48)) dX7_firstOf_25 (by decide) ?_
      refine bx_icmp_ge_f (pc := 27) (tgt := 34) dX7_firstOf_27 (by decide) (nI_ge (by omega) (by omega)) ?_
      refine ex_iload_n (pc := 30) dX7_firstOf_30 rfl ?_
      refine ex_goto (pc := 31) (tgt := 35) dX7_firstOf_31 (by decide) ?_
      refine ex_ret dX7_firstOf_35 rfl ?_
      refine qi_mk ⟨rfl, ?_⟩
      rw [lg_eq0, shrand (by omega)] at c_15
      rw [fstB, if_pos (by simpa using c_15)]
      rfl
    · skip
      first | refine sx_inc (pc := 18) dX7_firstOf_18 rfl rfl (by decide) ?_ | refine sx_iinc (pc := 18) dX7_firstOf_18 rfl rfl (by decide) ?_
      show Ex _ _ _ _ _ _ [_, _, _] _ _ _
      refine ex_goto (pc := 21) (tgt := 2) dX7_firstOf_21 (by decide) ?_
      rw [lg_eq0, shrand (by omega)] at c_15
      refine (ih (k + 1) (by omega)).mono (fun h' r z => ?_)
      obtain ⟨y, rfl, rfl, rfl⟩ := z
      refine qi_mk ⟨rfl, ?_⟩
      rw [fstB, if_neg (by rw [c_15]; decide)]
set_option maxHeartbeats 4000000 in
set_option maxRecDepth 100000 in
theorem c_M_firstOf {g : Gl} {d ks : Nat} {h : AH} (x : Int64) : Ex g mX7_firstOf d 0 ks 0 [some (.long x), none, none] [] h (qi (fun h' r => h' = h ∧ r = oN (-1) (fstB (bL x) 48 0))) := by
  refine ex_iconst (pc := 0) (v := (nI 0)) dX7_firstOf_0 (by decide) ?_
  refine sx_istore_n (pc := 1) dX7_firstOf_1 rfl (by decide) ?_
  show Ex _ _ _ _ _ _ [_, _, _] _ _ _
  exact c_M_firstOf_l x 48 0 (by omega)
theorem inL {v : Int32} {n : Nat} {hi : Int64} (hh : hi = (nI n).toInt64) (hn : n < 2147483647) : ((0 : Int64) ≤ v.toInt64 ∧ v.toInt64 ≤ hi) ↔ (0 ≤ v ∧ v < nI (n + 1)) := by
  rw [hh, inR_iffL hn, inR_iff (by omega)]
set_option maxHeartbeats 4000000 in
set_option maxRecDepth 100000 in
theorem c_M_isSheet {g : Gl} {d ks : Nat} {h : AH} (hd : 1 ≤ d) (v : Int32) : Ex g mX7_isSheet d 0 ks 0 [some (.int v)] [] h (qi (fun h' r => h' = h ∧ r = bI (0 ≤ v ∧ v < nI 4))) := by
  refine ex_iload_n (pc := 0) dX7_isSheet_0 rfl ?_
  refine ex_i2l (pc := 1) dX7_isSheet_1 ?_
  refine ex_lconst (pc := 2) (v := 0) dX7_isSheet_2 (by decide) ?_
  refine ex_ldc2_w (pc := 3) dX7_isSheet_3 cn_X7_159 ?_
  refine cx_SL3i (pc := 6) dX7_isSheet_6 lk_X7_69 rfl (Nat.le_of_ble_eq_true rfl) (Nat.le_of_ble_eq_true rfl) (by omega) (c_M_isIn _ _ _) (fun h_6 x_6 q_6 => ?_)
  obtain ⟨e_6, f_6⟩ := q_6
  rw [e_6, f_6]
  refine ex_zret dX7_isSheet_9 rfl (by first | exact Or.inl rfl | exact Or.inr rfl | exact bI_01 _) ?_
  exact qi_mk ⟨rfl, bI_eq (inL (n := 3) (by decide) (by omega))⟩
set_option maxHeartbeats 4000000 in
set_option maxRecDepth 100000 in
theorem c_M_isSlot {g : Gl} {d ks : Nat} {h : AH} (hd : 1 ≤ d) (v : Int32) : Ex g mX7_isSlot d 0 ks 0 [some (.int v)] [] h (qi (fun h' r => h' = h ∧ r = bI (0 ≤ v ∧ v < nI 5))) := by
  refine ex_iload_n (pc := 0) dX7_isSlot_0 rfl ?_
  refine ex_i2l (pc := 1) dX7_isSlot_1 ?_
  refine ex_lconst (pc := 2) (v := 0) dX7_isSlot_2 (by decide) ?_
  refine ex_ldc2_w (pc := 3) dX7_isSlot_3 cn_X7_382 ?_
  refine cx_SL3i (pc := 6) dX7_isSlot_6 lk_X7_69 rfl (Nat.le_of_ble_eq_true rfl) (Nat.le_of_ble_eq_true rfl) (by omega) (c_M_isIn _ _ _) (fun h_6 x_6 q_6 => ?_)
  obtain ⟨e_6, f_6⟩ := q_6
  rw [e_6, f_6]
  refine ex_zret dX7_isSlot_9 rfl (by first | exact Or.inl rfl | exact Or.inr rfl | exact bI_01 _) ?_
  exact qi_mk ⟨rfl, bI_eq (inL (n := 4) (by decide) (by omega))⟩

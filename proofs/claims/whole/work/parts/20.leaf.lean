/-! leaves: Math, bits, the class's small statics, a post -/
def mx32 (x y : Int32) : Int32 := if x < y then y else x
def mn32 (x y : Int32) : Int32 := if y < x then y else x
def ab32 (x : Int32) : Int32 := if 0 ≤ x then x else -x
def fd32 (x y : Int32) : Int32 := if x ^^^ y < 0 ∧ ¬ x / y * y = x then x / y - nI 1 else x / y
set_option maxHeartbeats 4000000 in
set_option maxRecDepth 100000 in
theorem c_max {g : Gl} {d ks : Nat} {h : AH} (x y : Int32) : Ex g mJ9_max_7cf53 d 0 ks 0 [some (.int x), some (.int y)] [] h (qi (fun h' r => h' = h ∧ r = mx32 x y)) := by
  refine ex_iload_n (pc := 0) dJ9_max_7cf53_0 rfl ?_
  refine ex_iload_n (pc := 1) dJ9_max_7cf53_1 rfl ?_
  refine ex_icmp_lt (pc := 2) (tgt := 9) dJ9_max_7cf53_2 (by decide) (fun c_2 => ?_) (fun c_2 => ?_)
  · skip
    refine ex_iload_n (pc := 9) dJ9_max_7cf53_9 rfl ?_
    refine ex_ret dJ9_max_7cf53_10 rfl ?_
    refine qi_mk ⟨rfl, ?_⟩
    first | (simp_all [mx32, bI, nI_eq]; done) | (simp_all [mx32, bI, nI_eq]; grind) | grind [mx32, bI]
  · skip
    refine ex_iload_n (pc := 5) dJ9_max_7cf53_5 rfl ?_
    refine ex_goto (pc := 6) (tgt := 10) dJ9_max_7cf53_6 (by decide) ?_
    refine ex_ret dJ9_max_7cf53_10 rfl ?_
    refine qi_mk ⟨rfl, ?_⟩
    first | (simp_all [mx32, bI, nI_eq]; done) | (simp_all [mx32, bI, nI_eq]; grind) | grind [mx32, bI]
set_option maxHeartbeats 4000000 in
set_option maxRecDepth 100000 in
theorem c_min {g : Gl} {d ks : Nat} {h : AH} (x y : Int32) : Ex g mJ9_min_7cf53 d 0 ks 0 [some (.int x), some (.int y)] [] h (qi (fun h' r => h' = h ∧ r = mn32 x y)) := by
  refine ex_iload_n (pc := 0) dJ9_min_7cf53_0 rfl ?_
  refine ex_iload_n (pc := 1) dJ9_min_7cf53_1 rfl ?_
  refine ex_icmp_gt (pc := 2) (tgt := 9) dJ9_min_7cf53_2 (by decide) (fun c_2 => ?_) (fun c_2 => ?_)
  · skip
    refine ex_iload_n (pc := 9) dJ9_min_7cf53_9 rfl ?_
    refine ex_ret dJ9_min_7cf53_10 rfl ?_
    refine qi_mk ⟨rfl, ?_⟩
    first | (simp_all [mn32, bI, nI_eq]; done) | (simp_all [mn32, bI, nI_eq]; grind) | grind [mn32, bI]
  · skip
    refine ex_iload_n (pc := 5) dJ9_min_7cf53_5 rfl ?_
    refine ex_goto (pc := 6) (tgt := 10) dJ9_min_7cf53_6 (by decide) ?_
    refine ex_ret dJ9_min_7cf53_10 rfl ?_
    refine qi_mk ⟨rfl, ?_⟩
    first | (simp_all [mn32, bI, nI_eq]; done) | (simp_all [mn32, bI, nI_eq]; grind) | grind [mn32, bI]
set_option maxHeartbeats 4000000 in
set_option maxRecDepth 100000 in
theorem c_abs {g : Gl} {d ks : Nat} {h : AH} (x : Int32) : Ex g mJ9_abs_0f7a4 d 0 ks 0 [some (.int x)] [] h (qi (fun h' r => h' = h ∧ r = ab32 x)) := by
  refine ex_iload_n (pc := 0) dJ9_abs_0f7a4_0 rfl ?_
  refine ex_if_ge (pc := 1) (tgt := 9) dJ9_abs_0f7a4_1 (by decide) (fun c_1 => ?_) (fun c_1 => ?_)
  · skip
    refine ex_iload_n (pc := 9) dJ9_abs_0f7a4_9 rfl ?_
    refine ex_ret dJ9_abs_0f7a4_10 rfl ?_
    refine qi_mk ⟨rfl, ?_⟩
    first | (simp_all [ab32, bI, nI_eq]; done) | (simp_all [ab32, bI, nI_eq]; grind) | grind [ab32, bI]
  · skip
    refine ex_iload_n (pc := 4) dJ9_abs_0f7a4_4 rfl ?_
    refine ex_ineg (pc := 5) dJ9_abs_0f7a4_5 ?_
    refine ex_goto (pc := 6) (tgt := 10) dJ9_abs_0f7a4_6 (by decide) ?_
    refine ex_ret dJ9_abs_0f7a4_10 rfl ?_
    refine qi_mk ⟨rfl, ?_⟩
    first | (simp_all [ab32, bI, nI_eq]; done) | (simp_all [ab32, bI, nI_eq]; grind) | grind [ab32, bI]
set_option maxHeartbeats 4000000 in
set_option maxRecDepth 100000 in
theorem c_floorDiv {g : Gl} {d ks : Nat} {h : AH} (x y : Int32) (hy : ¬ y = 0) : Ex g mJ9_floorDiv_7cf53 d 0 ks 0 [some (.int x), some (.int y), none] [] h (qi (fun h' r => h' = h ∧ r = fd32 x y)) := by
  refine ex_iload_n (pc := 0) dJ9_floorDiv_7cf53_0 rfl ?_
  refine ex_iload_n (pc := 1) dJ9_floorDiv_7cf53_1 rfl ?_
  refine ex_idiv (pc := 2) dJ9_floorDiv_7cf53_2 hy ?_
  refine sx_istore_n (pc := 3) dJ9_floorDiv_7cf53_3 rfl (by decide) ?_
  show Ex _ _ _ _ _ _ [_, _, _] _ _ _
  refine ex_iload_n (pc := 4) dJ9_floorDiv_7cf53_4 rfl ?_
  refine ex_iload_n (pc := 5) dJ9_floorDiv_7cf53_5 rfl ?_
  refine ex_ixor (pc := 6) dJ9_floorDiv_7cf53_6 ?_
  refine ex_if_ge (pc := 7) (tgt := 21) dJ9_floorDiv_7cf53_7 (by decide) (fun c_7 => ?_) (fun c_7 => ?_)
  · skip
    refine ex_iload_n (pc := 21) dJ9_floorDiv_7cf53_21 rfl ?_
    refine ex_ret dJ9_floorDiv_7cf53_22 rfl ?_
    refine qi_mk ⟨rfl, ?_⟩
    first | (simp_all [fd32, bI, nI_eq]; done) | (simp_all [fd32, bI, nI_eq]; grind) | grind [fd32, bI]
  · skip
    refine ex_iload_n (pc := 10) dJ9_floorDiv_7cf53_10 rfl ?_
    refine ex_iload_n (pc := 11) dJ9_floorDiv_7cf53_11 rfl ?_
    refine ex_imul (pc := 12) dJ9_floorDiv_7cf53_12 ?_
    refine ex_iload_n (pc := 13) dJ9_floorDiv_7cf53_13 rfl ?_
    refine ex_icmp_eq (pc := 14) (tgt := 21) dJ9_floorDiv_7cf53_14 (by decide) (fun c_14 => ?_) (fun c_14 => ?_)
    · skip
      refine ex_iload_n (pc := 21) dJ9_floorDiv_7cf53_21 rfl ?_
      refine ex_ret dJ9_floorDiv_7cf53_22 rfl ?_
      refine qi_mk ⟨rfl, ?_⟩
      first | (simp_all [fd32, bI, nI_eq]; done) | (simp_all [fd32, bI, nI_eq]; grind) | grind [fd32, bI]
    · skip
      refine ex_iload_n (pc := 17) dJ9_floorDiv_7cf53_17 rfl ?_
      refine ex_iconst (pc := 18) (v := (nI 1)) dJ9_floorDiv_7cf53_18 (by decide) ?_
      refine ex_isub (pc := 19) dJ9_floorDiv_7cf53_19 ?_
      refine ex_ret dJ9_floorDiv_7cf53_20 rfl ?_
      refine qi_mk ⟨rfl, ?_⟩
      first | (simp_all [fd32, bI, nI_eq]; done) | (simp_all [fd32, bI, nI_eq]; grind) | grind [fd32, bI]
set_option maxHeartbeats 4000000 in
set_option maxRecDepth 100000 in
theorem c_isBelow {g : Gl} {d ks : Nat} {h : AH} (v b : Int32) : Ex g mX6_isBelow d 0 ks 0 [some (.int v), some (.int b)] [] h (qi (fun h' r => h' = h ∧ r = bI (0 ≤ v ∧ v < b))) := by
  refine ex_iload_n (pc := 0) dX6_isBelow_0 rfl ?_
  refine ex_if_lt (pc := 1) (tgt := 13) dX6_isBelow_1 (by decide) (fun c_1 => ?_) (fun c_1 => ?_)
  · skip
    refine ex_iconst (pc := 13) (v := 0) dX6_isBelow_13 (by decide) ?_
    refine ex_zret dX6_isBelow_14 rfl (by first | exact Or.inl rfl | exact Or.inr rfl | exact bI_01 _) ?_
    refine qi_mk ⟨rfl, ?_⟩
    first | (simp_all [mx32, bI, nI_eq]; done) | (simp_all [mx32, bI, nI_eq]; grind) | grind [mx32, bI]
  · skip
    refine ex_iload_n (pc := 4) dX6_isBelow_4 rfl ?_
    refine ex_iload_n (pc := 5) dX6_isBelow_5 rfl ?_
    refine ex_icmp_ge (pc := 6) (tgt := 13) dX6_isBelow_6 (by decide) (fun c_6 => ?_) (fun c_6 => ?_)
    · skip
      refine ex_iconst (pc := 13) (v := 0) dX6_isBelow_13 (by decide) ?_
      refine ex_zret dX6_isBelow_14 rfl (by first | exact Or.inl rfl | exact Or.inr rfl | exact bI_01 _) ?_
      refine qi_mk ⟨rfl, ?_⟩
      first | (simp_all [mx32, bI, nI_eq]; done) | (simp_all [mx32, bI, nI_eq]; grind) | grind [mx32, bI]
    · skip
      refine ex_iconst (pc := 9) (v := 1) dX6_isBelow_9 (by decide) ?_
      refine ex_goto (pc := 10) (tgt := 14) dX6_isBelow_10 (by decide) ?_
      refine ex_zret dX6_isBelow_14 rfl (by first | exact Or.inl rfl | exact Or.inr rfl | exact bI_01 _) ?_
      refine qi_mk ⟨rfl, ?_⟩
      first | (simp_all [mx32, bI, nI_eq]; done) | (simp_all [mx32, bI, nI_eq]; grind) | grind [mx32, bI]
def hld (v m : Int32) : Int32 := mx32 0 (mn32 v m)
set_option maxHeartbeats 4000000 in
set_option maxRecDepth 100000 in
theorem c_held {g : Gl} {d ks : Nat} {h : AH} (hd : 1 ≤ d) (v m : Int32) : Ex g mX6_held d 0 ks 0 [some (.int v), some (.int m)] [] h (qi (fun h' r => h' = h ∧ r = hld v m)) := by
  refine ex_iconst (pc := 0) (v := (nI 0)) dX6_held_0 (by decide) ?_
  refine ex_iload_n (pc := 1) dX6_held_1 rfl ?_
  refine ex_iload_n (pc := 2) dX6_held_2 rfl ?_
  refine cx_SL2i (pc := 3) dX6_held_3 lk_X6_165 rfl (Nat.le_of_ble_eq_true rfl) (Nat.le_of_ble_eq_true rfl) (by omega) (c_min _ _) (fun h_3 x_3 q_3 => ?_)
  obtain ⟨e_3, rfl⟩ := q_3
  rw [e_3]
  refine cx_SL2i (pc := 6) dX6_held_6 lk_X6_339 rfl (Nat.le_of_ble_eq_true rfl) (Nat.le_of_ble_eq_true rfl) (by omega) (c_max _ _) (fun h_6 x_6 q_6 => ?_)
  obtain ⟨e_6, rfl⟩ := q_6
  rw [e_6]
  refine ex_ret dX6_held_9 rfl ?_
  exact qi_mk ⟨rfl, rfl⟩
set_option maxHeartbeats 4000000 in
set_option maxRecDepth 100000 in
theorem c_oneIf {g : Gl} {d ks : Nat} {h : AH} (v : Int32) : Ex g mX6_oneIf d 0 ks 0 [some (.int v)] [] h (qi (fun h' r => h' = h ∧ r = bI (¬ v = 0))) := by
  refine ex_iload_n (pc := 0) dX6_oneIf_0 rfl ?_
  refine ex_if_eq (pc := 1) (tgt := 8) dX6_oneIf_1 (by decide) (fun c_1 => ?_) (fun c_1 => ?_)
  · skip
    refine ex_iconst (pc := 8) (v := 0) dX6_oneIf_8 (by decide) ?_
    refine ex_ret dX6_oneIf_9 rfl ?_
    refine qi_mk ⟨rfl, ?_⟩
    first | (simp_all [mx32, bI, nI_eq]; done) | (simp_all [mx32, bI, nI_eq]; grind) | grind [mx32, bI]
  · skip
    refine ex_iconst (pc := 4) (v := 1) dX6_oneIf_4 (by decide) ?_
    refine ex_goto (pc := 5) (tgt := 9) dX6_oneIf_5 (by decide) ?_
    refine ex_ret dX6_oneIf_9 rfl ?_
    refine qi_mk ⟨rfl, ?_⟩
    first | (simp_all [mx32, bI, nI_eq]; done) | (simp_all [mx32, bI, nI_eq]; grind) | grind [mx32, bI]
set_option maxHeartbeats 4000000 in
set_option maxRecDepth 100000 in
theorem c_bit {g : Gl} {d ks : Nat} {h : AH} (v : Int32) : Ex g mX6_bit d 0 ks 0 [some (.int v)] [] h (ql (fun h' r => h' = h ∧ r = shl64 1 v)) := by
  refine ex_lconst (pc := 0) (v := 1) dX6_bit_0 (by decide) ?_
  refine ex_iload_n (pc := 1) dX6_bit_1 rfl ?_
  refine ex_lshl (pc := 2) dX6_bit_2 ?_
  refine ex_lret dX6_bit_3 rfl ?_
  exact ql_mk ⟨rfl, rfl⟩
abbrev po (kd ce si ti : Int32) : va_E := ob 0 [.int kd, .int ce, .int si, .int ti]
def awk (kd ti hr : Int32) : Bool := if kd = nI 2 then decide (rm32 hr (nI 2) = 0) else if kd = nI 4 then decide (rm32 hr (nI 2) = 0 ∨ rm32 hr (nI 3) = 0) else if kd = nI 5 then decide (ti < nI 50) else true
def ahd (si rows cols : Int32) : Int32 := if si = nI 0 then -rows else if si = nI 1 then cols else if si = nI 2 then rows else -cols
def asd (si rows cols : Int32) : Int32 := if rm32 si (nI 2) = 0 then cols else rows
def lks (kd si rows cols : Int32) : Bool := if kd = nI 1 then decide (ab32 (asd si rows cols) ≤ ahd si rows cols) else if kd = nI 3 then decide (0 < ahd si rows cols ∧ asd si rows cols = 0) else if kd = nI 4 then decide (ab32 rows + ab32 cols ≤ nI 2) else true
def wrt (kd ti : Int32) : Int32 := if kd = nI 1 then ti + nI 4 else if kd = nI 3 then nI 2 * (ti + nI 4) else if kd = nI 2 then nI 99 - ti else if kd = nI 4 then nI 99 - ti - nI 6 else if kd = nI 5 then nI 3 else ti
def rch (kd pl : Int32) : Int32 := if kd = nI 1 then pl + nI 2 else if kd = nI 3 then nI 2 * (pl + nI 2) else pl
set_option maxHeartbeats 4000000 in
set_option maxRecDepth 100000 in
theorem c_P_aheadBy {g : Gl} {d ks : Nat} {h : AH} {q : Nat} {kd ce si ti : Int32} (he : h[q]? = some (po kd ce si ti)) (rows cols : Int32) : Ex g mX0_aheadBy d 0 ks 0 [some (.ref (g.1 + q)), some (.int rows), some (.int cols)] [] h (qi (fun h' r => h' = h ∧ r = ahd si rows cols)) := by
  refine ex_aload_n (pc := 0) dX0_aheadBy_0 rfl ?_
  refine ex_get (pc := 1) dX0_aheadBy_1 fl_X0_18 he rfl ?_
  refine ex_tsw (pc := 4) (n := 3) (l0 := 0) (tg := fun j => [32, 35, 37].getD j 0) (td := 39) dX0_aheadBy_4 rfl rfl (by decide +kernel) (by decide) (by decide) (fun j_4 hj_4 c_4 => ?_) (fun c_4 => ?_)
  · rcases (show j_4 = 0 ∨ j_4 = 1 ∨ j_4 = 2 by omega) with rfl | rfl | rfl
    · show Ex _ _ _ _ _ 32 _ _ _ _
      have c_4 : _ = nI 0 := c_4
      refine ex_iload_n (pc := 32) dX0_aheadBy_32 rfl ?_
      refine ex_ineg (pc := 33) dX0_aheadBy_33 ?_
      refine ex_ret dX0_aheadBy_34 rfl ?_
      refine qi_mk ⟨rfl, ?_⟩
      first | (simp_all [ahd, bI, nI_eq]; done) | (simp_all [ahd, bI, nI_eq]; grind) | grind [ahd, bI]
    · show Ex _ _ _ _ _ 35 _ _ _ _
      have c_4 : _ = nI 1 := c_4
      refine ex_iload_n (pc := 35) dX0_aheadBy_35 rfl ?_
      refine ex_ret dX0_aheadBy_36 rfl ?_
      refine qi_mk ⟨rfl, ?_⟩
      first | (simp_all [ahd, bI, nI_eq]; done) | (simp_all [ahd, bI, nI_eq]; grind) | grind [ahd, bI]
    · show Ex _ _ _ _ _ 37 _ _ _ _
      have c_4 : _ = nI 2 := c_4
      refine ex_iload_n (pc := 37) dX0_aheadBy_37 rfl ?_
      refine ex_ret dX0_aheadBy_38 rfl ?_
      refine qi_mk ⟨rfl, ?_⟩
      first | (simp_all [ahd, bI, nI_eq]; done) | (simp_all [ahd, bI, nI_eq]; grind) | grind [ahd, bI]
  · skip
    have c_4_0 : ¬ _ = nI 0 := c_4 0 (by decide)
    have c_4_1 : ¬ _ = nI 1 := c_4 1 (by decide)
    have c_4_2 : ¬ _ = nI 2 := c_4 2 (by decide)
    refine ex_iload_n (pc := 39) dX0_aheadBy_39 rfl ?_
    refine ex_ineg (pc := 40) dX0_aheadBy_40 ?_
    refine ex_ret dX0_aheadBy_41 rfl ?_
    refine qi_mk ⟨rfl, ?_⟩
    first | (simp_all [ahd, bI, nI_eq]; done) | (simp_all [ahd, bI, nI_eq]; grind) | grind [ahd, bI]
set_option maxHeartbeats 4000000 in
set_option maxRecDepth 100000 in
theorem c_P_isAwake {g : Gl} {d ks : Nat} {h : AH} {q : Nat} {kd ce si ti : Int32} (he : h[q]? = some (po kd ce si ti)) (hr : Int32) : Ex g mX0_isAwake d 0 ks 0 [some (.ref (g.1 + q)), some (.int hr)] [] h (qi (fun h' r => h' = h ∧ r = bI (awk kd ti hr = true))) := by
  refine ex_aload_n (pc := 0) dX0_isAwake_0 rfl ?_
  refine ex_get (pc := 1) dX0_isAwake_1 fl_X0_9 he rfl ?_
  refine ex_tsw (pc := 4) (n := 4) (l0 := 2) (tg := fun j => [36, 81, 48, 66].getD j 0) (td := 81) dX0_isAwake_4 rfl rfl (by decide +kernel) (by decide) (by decide) (fun j_4 hj_4 c_4 => ?_) (fun c_4 => ?_)
  · rcases (show j_4 = 0 ∨ j_4 = 1 ∨ j_4 = 2 ∨ j_4 = 3 by omega) with rfl | rfl | rfl | rfl
    · show Ex _ _ _ _ _ 36 _ _ _ _
      have c_4 : _ = nI 2 := c_4
      refine ex_iload_n (pc := 36) dX0_isAwake_36 rfl ?_
      refine ex_iconst (pc := 37) (v := (nI 2)) dX0_isAwake_37 (by decide) ?_
      refine ex_irem (pc := 38) dX0_isAwake_38 (by decide) ?_
      refine ex_if_ne (pc := 39) (tgt := 46) dX0_isAwake_39 (by decide) (fun c_39 => ?_) (fun c_39 => ?_)
      · skip
        refine ex_iconst (pc := 46) (v := 0) dX0_isAwake_46 (by decide) ?_
        refine ex_zret dX0_isAwake_47 rfl (by first | exact Or.inl rfl | exact Or.inr rfl | exact bI_01 _) ?_
        refine qi_mk ⟨rfl, ?_⟩
        first | (simp_all [awk, bI, nI_eq]; done) | (simp_all [awk, bI, nI_eq]; grind) | grind [awk, bI]
      · skip
        refine ex_iconst (pc := 42) (v := 1) dX0_isAwake_42 (by decide) ?_
        refine ex_goto (pc := 43) (tgt := 47) dX0_isAwake_43 (by decide) ?_
        refine ex_zret dX0_isAwake_47 rfl (by first | exact Or.inl rfl | exact Or.inr rfl | exact bI_01 _) ?_
        refine qi_mk ⟨rfl, ?_⟩
        first | (simp_all [awk, bI, nI_eq]; done) | (simp_all [awk, bI, nI_eq]; grind) | grind [awk, bI]
    · show Ex _ _ _ _ _ 81 _ _ _ _
      have c_4 : _ = nI 3 := c_4
      refine ex_iconst (pc := 81) (v := 1) dX0_isAwake_81 (by decide) ?_
      refine ex_zret dX0_isAwake_82 rfl (by first | exact Or.inl rfl | exact Or.inr rfl | exact bI_01 _) ?_
      refine qi_mk ⟨rfl, ?_⟩
      first | (simp_all [awk, bI, nI_eq]; done) | (simp_all [awk, bI, nI_eq]; grind) | grind [awk, bI]
    · show Ex _ _ _ _ _ 48 _ _ _ _
      have c_4 : _ = nI 4 := c_4
      refine ex_iload_n (pc := 48) dX0_isAwake_48 rfl ?_
      refine ex_iconst (pc := 49) (v := (nI 2)) dX0_isAwake_49 (by decide) ?_
      refine ex_irem (pc := 50) dX0_isAwake_50 (by decide) ?_
      refine ex_if_eq (pc := 51) (tgt := 60) dX0_isAwake_51 (by decide) (fun c_51 => ?_) (fun c_51 => ?_)
      · skip
        refine ex_iconst (pc := 60) (v := 1) dX0_isAwake_60 (by decide) ?_
        refine ex_goto (pc := 61) (tgt := 65) dX0_isAwake_61 (by decide) ?_
        refine ex_zret dX0_isAwake_65 rfl (by first | exact Or.inl rfl | exact Or.inr rfl | exact bI_01 _) ?_
        refine qi_mk ⟨rfl, ?_⟩
        first | (simp_all [awk, bI, nI_eq]; done) | (simp_all [awk, bI, nI_eq]; grind) | grind [awk, bI]
      · skip
        refine ex_iload_n (pc := 54) dX0_isAwake_54 rfl ?_
        refine ex_iconst (pc := 55) (v := (nI 3)) dX0_isAwake_55 (by decide) ?_
        refine ex_irem (pc := 56) dX0_isAwake_56 (by decide) ?_
        refine ex_if_ne (pc := 57) (tgt := 64) dX0_isAwake_57 (by decide) (fun c_57 => ?_) (fun c_57 => ?_)
        · skip
          refine ex_iconst (pc := 64) (v := 0) dX0_isAwake_64 (by decide) ?_
          refine ex_zret dX0_isAwake_65 rfl (by first | exact Or.inl rfl | exact Or.inr rfl | exact bI_01 _) ?_
          refine qi_mk ⟨rfl, ?_⟩
          first | (simp_all [awk, bI, nI_eq]; done) | (simp_all [awk, bI, nI_eq]; grind) | grind [awk, bI]
        · skip
          refine ex_iconst (pc := 60) (v := 1) dX0_isAwake_60 (by decide) ?_
          refine ex_goto (pc := 61) (tgt := 65) dX0_isAwake_61 (by decide) ?_
          refine ex_zret dX0_isAwake_65 rfl (by first | exact Or.inl rfl | exact Or.inr rfl | exact bI_01 _) ?_
          refine qi_mk ⟨rfl, ?_⟩
          first | (simp_all [awk, bI, nI_eq]; done) | (simp_all [awk, bI, nI_eq]; grind) | grind [awk, bI]
    · show Ex _ _ _ _ _ 66 _ _ _ _
      have c_4 : _ = nI 5 := c_4
      refine ex_aload_n (pc := 66) dX0_isAwake_66 rfl ?_
      refine ex_get (pc := 67) dX0_isAwake_67 fl_X0_21 he rfl ?_
      refine ex_bipush (pc := 70) (v := (nI 50)) dX0_isAwake_70 (by decide) ?_
      refine ex_icmp_ge (pc := 72) (tgt := 79) dX0_isAwake_72 (by decide) (fun c_72 => ?_) (fun c_72 => ?_)
      · skip
        refine ex_iconst (pc := 79) (v := 0) dX0_isAwake_79 (by decide) ?_
        refine ex_zret dX0_isAwake_80 rfl (by first | exact Or.inl rfl | exact Or.inr rfl | exact bI_01 _) ?_
        refine qi_mk ⟨rfl, ?_⟩
        first | (simp_all [awk, bI, nI_eq]; done) | (simp_all [awk, bI, nI_eq]; grind) | grind [awk, bI]
      · skip
        refine ex_iconst (pc := 75) (v := 1) dX0_isAwake_75 (by decide) ?_
        refine ex_goto (pc := 76) (tgt := 80) dX0_isAwake_76 (by decide) ?_
        refine ex_zret dX0_isAwake_80 rfl (by first | exact Or.inl rfl | exact Or.inr rfl | exact bI_01 _) ?_
        refine qi_mk ⟨rfl, ?_⟩
        first | (simp_all [awk, bI, nI_eq]; done) | (simp_all [awk, bI, nI_eq]; grind) | grind [awk, bI]
  · skip
    have c_4_2 : ¬ _ = nI 2 := c_4 0 (by decide)
    have c_4_3 : ¬ _ = nI 3 := c_4 1 (by decide)
    have c_4_4 : ¬ _ = nI 4 := c_4 2 (by decide)
    have c_4_5 : ¬ _ = nI 5 := c_4 3 (by decide)
    refine ex_iconst (pc := 81) (v := 1) dX0_isAwake_81 (by decide) ?_
    refine ex_zret dX0_isAwake_82 rfl (by first | exact Or.inl rfl | exact Or.inr rfl | exact bI_01 _) ?_
    refine qi_mk ⟨rfl, ?_⟩
    first | (simp_all [awk, bI, nI_eq]; done) | (simp_all [awk, bI, nI_eq]; grind) | grind [awk, bI]
set_option maxHeartbeats 4000000 in
set_option maxRecDepth 100000 in
theorem c_P_asideBy {g : Gl} {d ks : Nat} {h : AH} {q : Nat} {kd ce si ti : Int32} (he : h[q]? = some (po kd ce si ti)) (rows cols : Int32) : Ex g mX0_asideBy d 0 ks 0 [some (.ref (g.1 + q)), some (.int rows), some (.int cols)] [] h (qi (fun h' r => h' = h ∧ r = asd si rows cols)) := by
  refine ex_aload_n (pc := 0) dX0_asideBy_0 rfl ?_
  refine ex_get (pc := 1) dX0_asideBy_1 fl_X0_18 he rfl ?_
  refine ex_iconst (pc := 4) (v := (nI 2)) dX0_asideBy_4 (by decide) ?_
  refine ex_irem (pc := 5) dX0_asideBy_5 (by decide) ?_
  refine ex_if_ne (pc := 6) (tgt := 13) dX0_asideBy_6 (by decide) (fun c_6 => ?_) (fun c_6 => ?_)
  · skip
    refine ex_iload_n (pc := 13) dX0_asideBy_13 rfl ?_
    refine ex_ret dX0_asideBy_14 rfl ?_
    refine qi_mk ⟨rfl, ?_⟩
    first | (simp_all [asd, bI, nI_eq]; done) | (simp_all [asd, bI, nI_eq]; grind) | grind [asd, bI]
  · skip
    refine ex_iload_n (pc := 9) dX0_asideBy_9 rfl ?_
    refine ex_goto (pc := 10) (tgt := 14) dX0_asideBy_10 (by decide) ?_
    refine ex_ret dX0_asideBy_14 rfl ?_
    refine qi_mk ⟨rfl, ?_⟩
    first | (simp_all [asd, bI, nI_eq]; done) | (simp_all [asd, bI, nI_eq]; grind) | grind [asd, bI]
set_option maxHeartbeats 4000000 in
set_option maxRecDepth 100000 in
theorem c_P_looksAt {g : Gl} {d ks : Nat} {h : AH} {q : Nat} {kd ce si ti : Int32} (he : h[q]? = some (po kd ce si ti)) (hd : 1 ≤ d) (rows cols : Int32) : Ex g mX0_looksAt d 0 ks 0 [some (.ref (g.1 + q)), some (.int rows), some (.int cols)] [] h (qi (fun h' r => h' = h ∧ r = bI (lks kd si rows cols = true))) := by
  refine ex_aload_n (pc := 0) dX0_looksAt_0 rfl ?_
  refine ex_get (pc := 1) dX0_looksAt_1 fl_X0_9 he rfl ?_
  refine ex_tsw (pc := 4) (n := 4) (l0 := 1) (tg := fun j => [36, 103, 60, 84].getD j 0) (td := 103) dX0_looksAt_4 rfl rfl (by decide +kernel) (by decide) (by decide) (fun j_4 hj_4 c_4 => ?_) (fun c_4 => ?_)
  · rcases (show j_4 = 0 ∨ j_4 = 1 ∨ j_4 = 2 ∨ j_4 = 3 by omega) with rfl | rfl | rfl | rfl
    · show Ex _ _ _ _ _ 36 _ _ _ _
      have c_4 : _ = nI 1 := c_4
      refine ex_aload_n (pc := 36) dX0_looksAt_36 rfl ?_
      refine ex_iload_n (pc := 37) dX0_looksAt_37 rfl ?_
      refine ex_iload_n (pc := 38) dX0_looksAt_38 rfl ?_
      refine cx_VL2i (pc := 39) dX0_looksAt_39 lk_X0_36 he rfl (Nat.le_of_ble_eq_true rfl) (Nat.le_of_ble_eq_true rfl) (by omega) (c_P_aheadBy he _ _) (fun h_39 x_39 q_39 => ?_)
      obtain ⟨e_39, rfl⟩ := q_39
      rw [e_39]
      refine ex_aload_n (pc := 42) dX0_looksAt_42 rfl ?_
      refine ex_iload_n (pc := 43) dX0_looksAt_43 rfl ?_
      refine ex_iload_n (pc := 44) dX0_looksAt_44 rfl ?_
      refine cx_VL2i (pc := 45) dX0_looksAt_45 lk_X0_40 he rfl (Nat.le_of_ble_eq_true rfl) (Nat.le_of_ble_eq_true rfl) (by omega) (c_P_asideBy he _ _) (fun h_45 x_45 q_45 => ?_)
      obtain ⟨e_45, rfl⟩ := q_45
      rw [e_45]
      refine cx_SL1i (pc := 48) dX0_looksAt_48 lk_X0_43 rfl (Nat.le_of_ble_eq_true rfl) (Nat.le_of_ble_eq_true rfl) (by omega) (c_abs _) (fun h_48 x_48 q_48 => ?_)
      obtain ⟨e_48, rfl⟩ := q_48
      rw [e_48]
      refine ex_icmp_lt (pc := 51) (tgt := 58) dX0_looksAt_51 (by decide) (fun c_51 => ?_) (fun c_51 => ?_)
      · skip
        refine ex_iconst (pc := 58) (v := 0) dX0_looksAt_58 (by decide) ?_
        refine ex_zret dX0_looksAt_59 rfl (by first | exact Or.inl rfl | exact Or.inr rfl | exact bI_01 _) ?_
        refine qi_mk ⟨rfl, ?_⟩
        first | (simp_all [lks, bI, nI_eq]; done) | (simp_all [lks, bI, nI_eq]; grind) | grind [lks, bI]
      · skip
        refine ex_iconst (pc := 54) (v := 1) dX0_looksAt_54 (by decide) ?_
        refine ex_goto (pc := 55) (tgt := 59) dX0_looksAt_55 (by decide) ?_
        refine ex_zret dX0_looksAt_59 rfl (by first | exact Or.inl rfl | exact Or.inr rfl | exact bI_01 _) ?_
        refine qi_mk ⟨rfl, ?_⟩
        first | (simp_all [lks, bI, nI_eq]; done) | (simp_all [lks, bI, nI_eq]; grind) | grind [lks, bI]
    · show Ex _ _ _ _ _ 103 _ _ _ _
      have c_4 : _ = nI 2 := c_4
      refine ex_iconst (pc := 103) (v := 1) dX0_looksAt_103 (by decide) ?_
      refine ex_zret dX0_looksAt_104 rfl (by first | exact Or.inl rfl | exact Or.inr rfl | exact bI_01 _) ?_
      refine qi_mk ⟨rfl, ?_⟩
      first | (simp_all [lks, bI, nI_eq]; done) | (simp_all [lks, bI, nI_eq]; grind) | grind [lks, bI]
    · show Ex _ _ _ _ _ 60 _ _ _ _
      have c_4 : _ = nI 3 := c_4
      refine ex_aload_n (pc := 60) dX0_looksAt_60 rfl ?_
      refine ex_iload_n (pc := 61) dX0_looksAt_61 rfl ?_
      refine ex_iload_n (pc := 62) dX0_looksAt_62 rfl ?_
      refine cx_VL2i (pc := 63) dX0_looksAt_63 lk_X0_36 he rfl (Nat.le_of_ble_eq_true rfl) (Nat.le_of_ble_eq_true rfl) (by omega) (c_P_aheadBy he _ _) (fun h_63 x_63 q_63 => ?_)
      obtain ⟨e_63, rfl⟩ := q_63
      rw [e_63]
      refine ex_if_le (pc := 66) (tgt := 82) dX0_looksAt_66 (by decide) (fun c_66 => ?_) (fun c_66 => ?_)
      · skip
        refine ex_iconst (pc := 82) (v := 0) dX0_looksAt_82 (by decide) ?_
        refine ex_zret dX0_looksAt_83 rfl (by first | exact Or.inl rfl | exact Or.inr rfl | exact bI_01 _) ?_
        refine qi_mk ⟨rfl, ?_⟩
        first | (simp_all [lks, bI, nI_eq]; done) | (simp_all [lks, bI, nI_eq]; grind) | grind [lks, bI]
      · skip
        refine ex_aload_n (pc := 69) dX0_looksAt_69 rfl ?_
        refine ex_iload_n (pc := 70) dX0_looksAt_70 rfl ?_
        refine ex_iload_n (pc := 71) dX0_looksAt_71 rfl ?_
        refine cx_VL2i (pc := 72) dX0_looksAt_72 lk_X0_40 he rfl (Nat.le_of_ble_eq_true rfl) (Nat.le_of_ble_eq_true rfl) (by omega) (c_P_asideBy he _ _) (fun h_72 x_72 q_72 => ?_)
        obtain ⟨e_72, rfl⟩ := q_72
        rw [e_72]
        refine ex_if_ne (pc := 75) (tgt := 82) dX0_looksAt_75 (by decide) (fun c_75 => ?_) (fun c_75 => ?_)
        · skip
          refine ex_iconst (pc := 82) (v := 0) dX0_looksAt_82 (by decide) ?_
          refine ex_zret dX0_looksAt_83 rfl (by first | exact Or.inl rfl | exact Or.inr rfl | exact bI_01 _) ?_
          refine qi_mk ⟨rfl, ?_⟩
          first | (simp_all [lks, bI, nI_eq]; done) | (simp_all [lks, bI, nI_eq]; grind) | grind [lks, bI]
        · skip
          refine ex_iconst (pc := 78) (v := 1) dX0_looksAt_78 (by decide) ?_
          refine ex_goto (pc := 79) (tgt := 83) dX0_looksAt_79 (by decide) ?_
          refine ex_zret dX0_looksAt_83 rfl (by first | exact Or.inl rfl | exact Or.inr rfl | exact bI_01 _) ?_
          refine qi_mk ⟨rfl, ?_⟩
          first | (simp_all [lks, bI, nI_eq]; done) | (simp_all [lks, bI, nI_eq]; grind) | grind [lks, bI]
    · show Ex _ _ _ _ _ 84 _ _ _ _
      have c_4 : _ = nI 4 := c_4
      refine ex_iload_n (pc := 84) dX0_looksAt_84 rfl ?_
      refine cx_SL1i (pc := 85) dX0_looksAt_85 lk_X0_43 rfl (Nat.le_of_ble_eq_true rfl) (Nat.le_of_ble_eq_true rfl) (by omega) (c_abs _) (fun h_85 x_85 q_85 => ?_)
      obtain ⟨e_85, rfl⟩ := q_85
      rw [e_85]
      refine ex_iload_n (pc := 88) dX0_looksAt_88 rfl ?_
      refine cx_SL1i (pc := 89) dX0_looksAt_89 lk_X0_43 rfl (Nat.le_of_ble_eq_true rfl) (Nat.le_of_ble_eq_true rfl) (by omega) (c_abs _) (fun h_89 x_89 q_89 => ?_)
      obtain ⟨e_89, rfl⟩ := q_89
      rw [e_89]
      refine ex_iadd (pc := 92) dX0_looksAt_92 ?_
      refine ex_iconst (pc := 93) (v := (nI 2)) dX0_looksAt_93 (by decide) ?_
      refine ex_icmp_gt (pc := 94) (tgt := 101) dX0_looksAt_94 (by decide) (fun c_94 => ?_) (fun c_94 => ?_)
      · skip
        refine ex_iconst (pc := 101) (v := 0) dX0_looksAt_101 (by decide) ?_
        refine ex_zret dX0_looksAt_102 rfl (by first | exact Or.inl rfl | exact Or.inr rfl | exact bI_01 _) ?_
        refine qi_mk ⟨rfl, ?_⟩
        first | (simp_all [lks, bI, nI_eq]; done) | (simp_all [lks, bI, nI_eq]; grind) | grind [lks, bI]
      · skip
        refine ex_iconst (pc := 97) (v := 1) dX0_looksAt_97 (by decide) ?_
        refine ex_goto (pc := 98) (tgt := 102) dX0_looksAt_98 (by decide) ?_
        refine ex_zret dX0_looksAt_102 rfl (by first | exact Or.inl rfl | exact Or.inr rfl | exact bI_01 _) ?_
        refine qi_mk ⟨rfl, ?_⟩
        first | (simp_all [lks, bI, nI_eq]; done) | (simp_all [lks, bI, nI_eq]; grind) | grind [lks, bI]
  · skip
    have c_4_1 : ¬ _ = nI 1 := c_4 0 (by decide)
    have c_4_2 : ¬ _ = nI 2 := c_4 1 (by decide)
    have c_4_3 : ¬ _ = nI 3 := c_4 2 (by decide)
    have c_4_4 : ¬ _ = nI 4 := c_4 3 (by decide)
    refine ex_iconst (pc := 103) (v := 1) dX0_looksAt_103 (by decide) ?_
    refine ex_zret dX0_looksAt_104 rfl (by first | exact Or.inl rfl | exact Or.inr rfl | exact bI_01 _) ?_
    refine qi_mk ⟨rfl, ?_⟩
    first | (simp_all [lks, bI, nI_eq]; done) | (simp_all [lks, bI, nI_eq]; grind) | grind [lks, bI]
set_option maxHeartbeats 4000000 in
set_option maxRecDepth 100000 in
theorem c_P_worth {g : Gl} {d ks : Nat} {h : AH} {q : Nat} {kd ce si ti : Int32} (he : h[q]? = some (po kd ce si ti)) : Ex g mX0_worth d 0 ks 0 [some (.ref (g.1 + q))] [] h (qi (fun h' r => h' = h ∧ r = wrt kd ti)) := by
  refine ex_aload_n (pc := 0) dX0_worth_0 rfl ?_
  refine ex_get (pc := 1) dX0_worth_1 fl_X0_9 he rfl ?_
  refine ex_tsw (pc := 4) (n := 5) (l0 := 1) (tg := fun j => [40, 56, 47, 64, 75].getD j 0) (td := 77) dX0_worth_4 rfl rfl (by decide +kernel) (by decide) (by decide) (fun j_4 hj_4 c_4 => ?_) (fun c_4 => ?_)
  · rcases (show j_4 = 0 ∨ j_4 = 1 ∨ j_4 = 2 ∨ j_4 = 3 ∨ j_4 = 4 by omega) with rfl | rfl | rfl | rfl | rfl
    · show Ex _ _ _ _ _ 40 _ _ _ _
      have c_4 : _ = nI 1 := c_4
      refine ex_aload_n (pc := 40) dX0_worth_40 rfl ?_
      refine ex_get (pc := 41) dX0_worth_41 fl_X0_21 he rfl ?_
      refine ex_iconst (pc := 44) (v := (nI 4)) dX0_worth_44 (by decide) ?_
      refine ex_iadd (pc := 45) dX0_worth_45 ?_
      refine ex_ret dX0_worth_46 rfl ?_
      refine qi_mk ⟨rfl, ?_⟩
      first | (simp_all [wrt, bI, nI_eq]; done) | (simp_all [wrt, bI, nI_eq]; grind) | grind [wrt, bI]
    · show Ex _ _ _ _ _ 56 _ _ _ _
      have c_4 : _ = nI 2 := c_4
      refine ex_bipush (pc := 56) (v := (nI 99)) dX0_worth_56 (by decide) ?_
      refine ex_aload_n (pc := 58) dX0_worth_58 rfl ?_
      refine ex_get (pc := 59) dX0_worth_59 fl_X0_21 he rfl ?_
      refine ex_isub (pc := 62) dX0_worth_62 ?_
      refine ex_ret dX0_worth_63 rfl ?_
      refine qi_mk ⟨rfl, ?_⟩
      first | (simp_all [wrt, bI, nI_eq]; done) | (simp_all [wrt, bI, nI_eq]; grind) | grind [wrt, bI]
    · show Ex _ _ _ _ _ 47 _ _ _ _
      have c_4 : _ = nI 3 := c_4
      refine ex_iconst (pc := 47) (v := (nI 2)) dX0_worth_47 (by decide) ?_
      refine ex_aload_n (pc := 48) dX0_worth_48 rfl ?_
      refine ex_get (pc := 49) dX0_worth_49 fl_X0_21 he rfl ?_
      refine ex_iconst (pc := 52) (v := (nI 4)) dX0_worth_52 (by decide) ?_
      refine ex_iadd (pc := 53) dX0_worth_53 ?_
      refine ex_imul (pc := 54) dX0_worth_54 ?_
      refine ex_ret dX0_worth_55 rfl ?_
      refine qi_mk ⟨rfl, ?_⟩
      first | (simp_all [wrt, bI, nI_eq]; done) | (simp_all [wrt, bI, nI_eq]; grind) | grind [wrt, bI]
    · show Ex _ _ _ _ _ 64 _ _ _ _
      have c_4 : _ = nI 4 := c_4
      refine ex_bipush (pc := 64) (v := (nI 99)) dX0_worth_64 (by decide) ?_
      refine ex_aload_n (pc := 66) dX0_worth_66 rfl ?_
      refine ex_get (pc := 67) dX0_worth_67 fl_X0_21 he rfl ?_
      refine ex_isub (pc := 70) dX0_worth_70 ?_
      refine ex_bipush (pc := 71) (v := (nI 6)) dX0_worth_71 (by decide) ?_
      refine ex_isub (pc := 73) dX0_worth_73 ?_
      refine ex_ret dX0_worth_74 rfl ?_
      refine qi_mk ⟨rfl, ?_⟩
      first | (simp_all [wrt, bI, nI_eq]; done) | (simp_all [wrt, bI, nI_eq]; grind) | grind [wrt, bI]
    · show Ex _ _ _ _ _ 75 _ _ _ _
      have c_4 : _ = nI 5 := c_4
      refine ex_iconst (pc := 75) (v := (nI 3)) dX0_worth_75 (by decide) ?_
      refine ex_ret dX0_worth_76 rfl ?_
      refine qi_mk ⟨rfl, ?_⟩
      first | (simp_all [wrt, bI, nI_eq]; done) | (simp_all [wrt, bI, nI_eq]; grind) | grind [wrt, bI]
  · skip
    have c_4_1 : ¬ _ = nI 1 := c_4 0 (by decide)
    have c_4_2 : ¬ _ = nI 2 := c_4 1 (by decide)
    have c_4_3 : ¬ _ = nI 3 := c_4 2 (by decide)
    have c_4_4 : ¬ _ = nI 4 := c_4 3 (by decide)
    have c_4_5 : ¬ _ = nI 5 := c_4 4 (by decide)
    refine ex_aload_n (pc := 77) dX0_worth_77 rfl ?_
    refine ex_get (pc := 78) dX0_worth_78 fl_X0_21 he rfl ?_
    refine ex_ret dX0_worth_81 rfl ?_
    refine qi_mk ⟨rfl, ?_⟩
    first | (simp_all [wrt, bI, nI_eq]; done) | (simp_all [wrt, bI, nI_eq]; grind) | grind [wrt, bI]
set_option maxHeartbeats 4000000 in
set_option maxRecDepth 100000 in
theorem c_P_reachFrom {g : Gl} {d ks : Nat} {h : AH} {q : Nat} {kd ce si ti : Int32} (he : h[q]? = some (po kd ce si ti)) (pl : Int32) : Ex g mX0_reachFrom d 0 ks 0 [some (.ref (g.1 + q)), some (.int pl)] [] h (qi (fun h' r => h' = h ∧ r = rch kd pl)) := by
  refine ex_aload_n (pc := 0) dX0_reachFrom_0 rfl ?_
  refine ex_get (pc := 1) dX0_reachFrom_1 fl_X0_9 he rfl ?_
  refine ex_lsw (pc := 4) (ks0 := [1, 3]) (tg := fun j => [32, 36].getD j 0) (td := 42) dX0_reachFrom_4 (by decide +kernel) (by decide +kernel) (by decide) (fun j_4 hj_4 c_4 => ?_) (fun c_4 => ?_)
  · rcases (show j_4 = 0 ∨ j_4 = 1 by simp only [List.length_cons, List.length_nil] at hj_4; omega) with rfl | rfl
    · show Ex _ _ _ _ _ 32 _ _ _ _
      have c_4 : _ = nI 1 := c_4
      refine ex_iload_n (pc := 32) dX0_reachFrom_32 rfl ?_
      refine ex_iconst (pc := 33) (v := (nI 2)) dX0_reachFrom_33 (by decide) ?_
      refine ex_iadd (pc := 34) dX0_reachFrom_34 ?_
      refine ex_ret dX0_reachFrom_35 rfl ?_
      refine qi_mk ⟨rfl, ?_⟩
      first | (simp_all [rch, bI, nI_eq]; done) | (simp_all [rch, bI, nI_eq]; grind) | grind [rch, bI]
    · show Ex _ _ _ _ _ 36 _ _ _ _
      have c_4 : _ = nI 3 := c_4
      refine ex_iconst (pc := 36) (v := (nI 2)) dX0_reachFrom_36 (by decide) ?_
      refine ex_iload_n (pc := 37) dX0_reachFrom_37 rfl ?_
      refine ex_iconst (pc := 38) (v := (nI 2)) dX0_reachFrom_38 (by decide) ?_
      refine ex_iadd (pc := 39) dX0_reachFrom_39 ?_
      refine ex_imul (pc := 40) dX0_reachFrom_40 ?_
      refine ex_ret dX0_reachFrom_41 rfl ?_
      refine qi_mk ⟨rfl, ?_⟩
      first | (simp_all [rch, bI, nI_eq]; done) | (simp_all [rch, bI, nI_eq]; grind) | grind [rch, bI]
  · skip
    have c_4_1 : ¬ _ = nI 1 := c_4 0 (by decide)
    have c_4_3 : ¬ _ = nI 3 := c_4 1 (by decide)
    refine ex_iload_n (pc := 42) dX0_reachFrom_42 rfl ?_
    refine ex_ret dX0_reachFrom_43 rfl ?_
    refine qi_mk ⟨rfl, ?_⟩
    first | (simp_all [rch, bI, nI_eq]; done) | (simp_all [rch, bI, nI_eq]; grind) | grind [rch, bI]
set_option maxHeartbeats 4000000 in
set_option maxRecDepth 100000 in
theorem c_P_become {g : Gl} {d ks : Nat} {h : AH} {q : Nat} {kd ce si ti : Int32} (he : h[q]? = some (po kd ce si ti)) (a b c e : Int32) : Ex g mX0_become d 0 ks 0 [some (.ref (g.1 + q)), some (.int a), some (.int b), some (.int c), some (.int e)] [] h (qv (fun h' => h' = h.set q (po a b c e))) := by
  refine ex_aload_n (pc := 0) dX0_become_0 rfl ?_
  refine ex_iload_n (pc := 1) dX0_become_1 rfl ?_
  refine ex_put (pc := 2) dX0_become_2 fp_X0_9 he (Nat.le_of_ble_eq_true rfl) rfl rfl ?_
  refine ex_aload_n (pc := 5) dX0_become_5 rfl ?_
  refine ex_iload_n (pc := 6) dX0_become_6 rfl ?_
  refine ex_put (pc := 7) dX0_become_7 fp_X0_15 (gs_eq he) (Nat.le_of_ble_eq_true rfl) rfl rfl ?_
  refine ex_aload_n (pc := 10) dX0_become_10 rfl ?_
  refine ex_iload_n (pc := 11) dX0_become_11 rfl ?_
  refine ex_put (pc := 12) dX0_become_12 fp_X0_18 (gs_eq (gs_eq he)) (Nat.le_of_ble_eq_true rfl) rfl rfl ?_
  refine ex_aload_n (pc := 15) dX0_become_15 rfl ?_
  refine ex_iload (pc := 16) dX0_become_16 rfl ?_
  refine ex_put (pc := 18) dX0_become_18 fp_X0_21 (gs_eq (gs_eq (gs_eq he))) (Nat.le_of_ble_eq_true rfl) rfl rfl ?_
  refine ex_vret dX0_become_21 rfl ?_
  exact qv_mk (by simp)

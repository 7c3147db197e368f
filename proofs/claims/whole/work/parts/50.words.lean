/-! words of the public calls: ranges, small tests, counts -/
def bw (v : Int32) (n : Nat) : Bool := decide (0 ≤ v ∧ v < nI n)
def bq (v : Int32) (a b : Nat) : Bool := decide (nI a ≤ v ∧ v ≤ nI b)
theorem bF {b : Bool} (h : bI (b = true) = 0) : b = false := by
  cases b with
  | false => rfl
  | true => exact absurd h (by decide)
theorem bT {b : Bool} (h : ¬ bI (b = true) = 0) : b = true := by
  cases b with
  | false => exact absurd (by decide) h
  | true => rfl
theorem bw_ex {v : Int32} {n : Nat} (h : bw v n = true) (hn : n < 2147483648 := by omega) : ∃ k, k < n ∧ v = nI k := by
  exact (inR_iff hn).mp (of_decide_eq_true h)
theorem bq_ex {v : Int32} {a b : Nat} (h : bq v a b = true) (hb : b < 2147483648 := by omega) (ha : a ≤ b := by omega) : ∃ k, a ≤ k ∧ k ≤ b ∧ v = nI k := by
  obtain ⟨h1, h2⟩ := of_decide_eq_true h
  obtain ⟨k, hk, rfl⟩ := nI_of (Int32.not_lt.mpr (Int32.le_trans (nI_pos' (by omega)) h1))
  exact ⟨k, (nI_leI (by omega) hk).mp h1, (nI_leI hk (by omega)).mp h2, rfl⟩
theorem bw_t {k n : Nat} (h : k < n) (hn : n < 2147483648 := by omega) : bw (nI k) n = true := decide_eq_true ⟨nI_pos' (by omega), nI_lt h hn⟩
theorem iK {k : Nat} (h : k < 2147483648) : (nI k).toNatClampNeg = k := nI_clamp h
theorem c_ib {g : Gl} {d ks : Nat} {h : AH} (v : Int32) (n : Nat) : Ex g mX6_isBelow d 0 ks 0 [some (.int v), some (.int (nI n))] [] h (qi (fun h' r => h' = h ∧ r = bI (bw v n = true))) :=
  (c_isBelow v (nI n)).mono (fun h' r a => by
    obtain ⟨x, e, a1, a2⟩ := a
    exact ⟨x, e, a1, a2.trans (bI_eq (by simp [bw]))⟩)
theorem c_M_in {g : Gl} {d ks : Nat} {h : AH} (v : Int32) {m : Nat} {hi : Int64} (hh : hi = (nI (m - 1)).toInt64 ∧ 0 < m ∧ m < 2147483647) : Ex g mX7_isIn d 0 ks 0 [some (.long v.toInt64), none, some (.long 0), none, some (.long hi), none] [] h (qi (fun h' r => h' = h ∧ r = bI (bw v m = true))) :=
  (c_M_isIn v.toInt64 0 hi).mono (fun h' r a => by
    obtain ⟨x, e, a1, a2⟩ := a
    exact ⟨x, e, a1, a2.trans (bI_eq (by rw [inL hh.1 (by omega), Nat.sub_add_cancel (by omega)]; simp [bw]))⟩)
theorem c_M_inq {g : Gl} {d ks : Nat} {h : AH} (v : Int32) {a b : Nat} {lo hi : Int64} (hl : lo = (nI a).toInt64) (hh : hi = (nI b).toInt64) : Ex g mX7_isIn d 0 ks 0 [some (.long v.toInt64), none, some (.long lo), none, some (.long hi), none] [] h (qi (fun h' r => h' = h ∧ r = bI (bq v a b = true))) :=
  (c_M_isIn v.toInt64 lo hi).mono (fun h' r q => by
    obtain ⟨x, e, a1, a2⟩ := q
    exact ⟨x, e, a1, a2.trans (bI_eq (by rw [hl, hh, fw_le, fw_le]; simp [bq]))⟩)
theorem c_M_cel {g : Gl} {d ks : Nat} {h : AH} (hd : 1 ≤ d) (v : Int32) : Ex g mX7_isCell d 0 ks 0 [some (.int v)] [] h (qi (fun h' r => h' = h ∧ r = bI (bw v 48 = true))) :=
  (c_M_isCell hd v).mono (fun h' r a => by
    obtain ⟨x, e, a1, a2⟩ := a
    exact ⟨x, e, a1, a2.trans (bI_eq (by rw [inL (n := 47) (by decide) (by decide)]; simp [bw]))⟩)
theorem c_M_isp {g : Gl} {d ks : Nat} {h : AH} {z s : Nat → Int32} (hM : Ms g h z s) {n : Nat} (hn : s 0 = nI n) (hn8 : n ≤ 8) (hd : 1 ≤ d) (v : Int32) : Ex g mX7_isPost d 0 ks 0 [some (.ref (g.1 + 75)), some (.int v)] [] h (qi (fun h' r => h' = h ∧ r = bI (bw v n = true))) :=
  (c_M_isPost hM hd v).mono (fun h' r a => by
    obtain ⟨x, e, a1, a2⟩ := a
    exact ⟨x, e, a1, a2.trans (bI_eq (by rw [hn, inR_iffN (by omega), ← inR_iff (by omega)]; simp [bw]))⟩)
theorem c_M_ist {g : Gl} {d ks : Nat} {h : AH} {z s : Nat → Int32} (hM : Ms g h z s) {nt : Nat} (hn : s 1 = nI nt) (hn8 : nt ≤ 14) (hd : 1 ≤ d) (v : Int32) : Ex g mX7_isText d 0 ks 0 [some (.ref (g.1 + 75)), some (.int v)] [] h (qi (fun h' r => h' = h ∧ r = bI (bw v nt = true))) :=
  (c_M_isText hM hd v).mono (fun h' r a => by
    obtain ⟨x, e, a1, a2⟩ := a
    exact ⟨x, e, a1, a2.trans (bI_eq (by rw [hn, inR_iffN (by omega), ← inR_iff (by omega)]; simp [bw]))⟩)
set_option maxHeartbeats 4000000 in
set_option maxRecDepth 100000 in
theorem c_W_isPost {g : Gl} {d ks : Nat} {h : AH} {ik wc : Int32} {s : Nat → Int32} {n : Nat} (hW : h[0]? = some (wtC g ik wc)) (hR : RoomB g h 1 s n) (hd : 1 ≤ d) (v : Int32) : Ex g mX6_isPost d 0 ks 0 [some (.ref (g.1 + 0)), some (.int v)] [] h (qi (fun h' r => h' = h ∧ r = bI (bw v n = true))) := by
  refine ex_iload_n (pc := 0) dX6_isPost_0 rfl ?_
  refine ex_aload_n (pc := 1) dX6_isPost_1 rfl ?_
  refine ex_get (pc := 2) dX6_isPost_2 fl_X6_10 hW rfl ?_
  refine ex_get (pc := 5) dX6_isPost_5 fl_X6_79 hR.1 rfl ?_
  rw [hR.2.1]
  refine cx_SL2i (pc := 8) dX6_isPost_8 lk_X6_69 rfl (Nat.le_of_ble_eq_true rfl) (Nat.le_of_ble_eq_true rfl) (by omega) (c_ib _ _) (fun h_8 x_8 q_8 => ?_)
  obtain ⟨e_8, f_8⟩ := q_8
  rw [e_8, f_8]
  refine ex_zret dX6_isPost_11 rfl (by first | exact Or.inl rfl | exact Or.inr rfl | exact bI_01 _) ?_
  exact qi_mk ⟨rfl, rfl⟩
set_option maxHeartbeats 4000000 in
set_option maxRecDepth 100000 in
theorem c_lbc {g : Gl} {d ks : Nat} {h : AH} (x : Int64) : Ex g mJ13_bitCount_95d88 d 0 ks 0 [some (.long x), none] [] h (qi (fun h' r => h' = h ∧ r = nI (cntL x))) := by
  refine ex_lload_n (pc := 0) dJ13_bitCount_95d88_0 rfl ?_
  refine ex_lload_n (pc := 1) dJ13_bitCount_95d88_1 rfl ?_
  refine ex_iconst (pc := 2) (v := (nI 1)) dJ13_bitCount_95d88_2 (by decide) ?_
  refine ex_lushr (pc := 3) dJ13_bitCount_95d88_3 ?_
  refine ex_ldc2_w (pc := 4) dJ13_bitCount_95d88_4 cn_J13_314 ?_
  refine ex_land (pc := 7) dJ13_bitCount_95d88_7 ?_
  refine ex_lsub (pc := 8) dJ13_bitCount_95d88_8 ?_
  refine sx_lstore_n (pc := 9) dJ13_bitCount_95d88_9 rfl (by decide) ?_
  show Ex _ _ _ _ _ _ [_, _] _ _ _
  show Ex _ _ _ _ _ _ [some (.long (bl1 x)), none] _ _ _
  refine ex_lload_n (pc := 10) dJ13_bitCount_95d88_10 rfl ?_
  refine ex_ldc2_w (pc := 11) dJ13_bitCount_95d88_11 cn_J13_316 ?_
  refine ex_land (pc := 14) dJ13_bitCount_95d88_14 ?_
  refine ex_lload_n (pc := 15) dJ13_bitCount_95d88_15 rfl ?_
  refine ex_iconst (pc := 16) (v := (nI 2)) dJ13_bitCount_95d88_16 (by decide) ?_
  refine ex_lushr (pc := 17) dJ13_bitCount_95d88_17 ?_
  refine ex_ldc2_w (pc := 18) dJ13_bitCount_95d88_18 cn_J13_316 ?_
  refine ex_land (pc := 21) dJ13_bitCount_95d88_21 ?_
  refine ex_ladd (pc := 22) dJ13_bitCount_95d88_22 ?_
  refine sx_lstore_n (pc := 23) dJ13_bitCount_95d88_23 rfl (by decide) ?_
  show Ex _ _ _ _ _ _ [_, _] _ _ _
  show Ex _ _ _ _ _ _ [some (.long (bl2 (bl1 x))), none] _ _ _
  refine ex_lload_n (pc := 24) dJ13_bitCount_95d88_24 rfl ?_
  refine ex_lload_n (pc := 25) dJ13_bitCount_95d88_25 rfl ?_
  refine ex_iconst (pc := 26) (v := (nI 4)) dJ13_bitCount_95d88_26 (by decide) ?_
  refine ex_lushr (pc := 27) dJ13_bitCount_95d88_27 ?_
  refine ex_ladd (pc := 28) dJ13_bitCount_95d88_28 ?_
  refine ex_ldc2_w (pc := 29) dJ13_bitCount_95d88_29 cn_J13_318 ?_
  refine ex_land (pc := 32) dJ13_bitCount_95d88_32 ?_
  refine sx_lstore_n (pc := 33) dJ13_bitCount_95d88_33 rfl (by decide) ?_
  show Ex _ _ _ _ _ _ [_, _] _ _ _
  show Ex _ _ _ _ _ _ [some (.long (bl3 (bl2 (bl1 x)))), none] _ _ _
  refine ex_lload_n (pc := 34) dJ13_bitCount_95d88_34 rfl ?_
  refine ex_lload_n (pc := 35) dJ13_bitCount_95d88_35 rfl ?_
  refine ex_bipush (pc := 36) (v := (nI 8)) dJ13_bitCount_95d88_36 (by decide) ?_
  refine ex_lushr (pc := 38) dJ13_bitCount_95d88_38 ?_
  refine ex_ladd (pc := 39) dJ13_bitCount_95d88_39 ?_
  refine sx_lstore_n (pc := 40) dJ13_bitCount_95d88_40 rfl (by decide) ?_
  show Ex _ _ _ _ _ _ [_, _] _ _ _
  show Ex _ _ _ _ _ _ [some (.long (bl4 (bl3 (bl2 (bl1 x))))), none] _ _ _
  refine ex_lload_n (pc := 41) dJ13_bitCount_95d88_41 rfl ?_
  refine ex_lload_n (pc := 42) dJ13_bitCount_95d88_42 rfl ?_
  refine ex_bipush (pc := 43) (v := (nI 16)) dJ13_bitCount_95d88_43 (by decide) ?_
  refine ex_lushr (pc := 45) dJ13_bitCount_95d88_45 ?_
  refine ex_ladd (pc := 46) dJ13_bitCount_95d88_46 ?_
  refine sx_lstore_n (pc := 47) dJ13_bitCount_95d88_47 rfl (by decide) ?_
  show Ex _ _ _ _ _ _ [_, _] _ _ _
  show Ex _ _ _ _ _ _ [some (.long (bl5 (bl4 (bl3 (bl2 (bl1 x)))))), none] _ _ _
  refine ex_lload_n (pc := 48) dJ13_bitCount_95d88_48 rfl ?_
  refine ex_lload_n (pc := 49) dJ13_bitCount_95d88_49 rfl ?_
  refine ex_bipush (pc := 50) (v := (nI 32)) dJ13_bitCount_95d88_50 (by decide) ?_
  refine ex_lushr (pc := 52) dJ13_bitCount_95d88_52 ?_
  refine ex_ladd (pc := 53) dJ13_bitCount_95d88_53 ?_
  refine sx_lstore_n (pc := 54) dJ13_bitCount_95d88_54 rfl (by decide) ?_
  show Ex _ _ _ _ _ _ [_, _] _ _ _
  show Ex _ _ _ _ _ _ [some (.long (bl6 (bl5 (bl4 (bl3 (bl2 (bl1 x))))))), none] _ _ _
  refine ex_lload_n (pc := 55) dJ13_bitCount_95d88_55 rfl ?_
  refine ex_l2i (pc := 56) dJ13_bitCount_95d88_56 ?_
  refine ex_bipush (pc := 57) (v := (nI 127)) dJ13_bitCount_95d88_57 (by decide) ?_
  refine ex_iand (pc := 59) dJ13_bitCount_95d88_59 ?_
  refine ex_ret dJ13_bitCount_95d88_60 rfl ?_
  exact qi_mk ⟨rfl, bcL_eq x⟩
set_option maxHeartbeats 4000000 in
set_option maxRecDepth 100000 in
theorem c_ibc {g : Gl} {d ks : Nat} {h : AH} {k : Nat} (hk : k < 256) : Ex g mJ6_bitCount_0f7a4 d 0 ks 0 [some (.int (nI k))] [] h (qi (fun h' r => h' = h ∧ r = nI (cntF 8 k))) := by
  refine ex_iload_n (pc := 0) dJ6_bitCount_0f7a4_0 rfl ?_
  refine ex_iload_n (pc := 1) dJ6_bitCount_0f7a4_1 rfl ?_
  refine ex_iconst (pc := 2) (v := (nI 1)) dJ6_bitCount_0f7a4_2 (by decide) ?_
  refine ex_iushr (pc := 3) dJ6_bitCount_0f7a4_3 ?_
  refine ex_ldc_w (pc := 4) dJ6_bitCount_0f7a4_4 cn_J6_265 ?_
  refine ex_iand (pc := 7) dJ6_bitCount_0f7a4_7 ?_
  refine ex_isub (pc := 8) dJ6_bitCount_0f7a4_8 ?_
  refine sx_istore_n (pc := 9) dJ6_bitCount_0f7a4_9 rfl (by decide) ?_
  show Ex _ _ _ _ _ _ [_] _ _ _
  show Ex _ _ _ _ _ _ [some (.int (bi1 (nI k)))] _ _ _
  refine ex_iload_n (pc := 10) dJ6_bitCount_0f7a4_10 rfl ?_
  refine ex_ldc_w (pc := 11) dJ6_bitCount_0f7a4_11 cn_J6_266 ?_
  refine ex_iand (pc := 14) dJ6_bitCount_0f7a4_14 ?_
  refine ex_iload_n (pc := 15) dJ6_bitCount_0f7a4_15 rfl ?_
  refine ex_iconst (pc := 16) (v := (nI 2)) dJ6_bitCount_0f7a4_16 (by decide) ?_
  refine ex_iushr (pc := 17) dJ6_bitCount_0f7a4_17 ?_
  refine ex_ldc_w (pc := 18) dJ6_bitCount_0f7a4_18 cn_J6_266 ?_
  refine ex_iand (pc := 21) dJ6_bitCount_0f7a4_21 ?_
  refine ex_iadd (pc := 22) dJ6_bitCount_0f7a4_22 ?_
  refine sx_istore_n (pc := 23) dJ6_bitCount_0f7a4_23 rfl (by decide) ?_
  show Ex _ _ _ _ _ _ [_] _ _ _
  show Ex _ _ _ _ _ _ [some (.int (bi2 (bi1 (nI k))))] _ _ _
  refine ex_iload_n (pc := 24) dJ6_bitCount_0f7a4_24 rfl ?_
  refine ex_iload_n (pc := 25) dJ6_bitCount_0f7a4_25 rfl ?_
  refine ex_iconst (pc := 26) (v := (nI 4)) dJ6_bitCount_0f7a4_26 (by decide) ?_
  refine ex_iushr (pc := 27) dJ6_bitCount_0f7a4_27 ?_
  refine ex_iadd (pc := 28) dJ6_bitCount_0f7a4_28 ?_
  refine ex_ldc_w (pc := 29) dJ6_bitCount_0f7a4_29 cn_J6_267 ?_
  refine ex_iand (pc := 32) dJ6_bitCount_0f7a4_32 ?_
  refine sx_istore_n (pc := 33) dJ6_bitCount_0f7a4_33 rfl (by decide) ?_
  show Ex _ _ _ _ _ _ [_] _ _ _
  show Ex _ _ _ _ _ _ [some (.int (bi3 (bi2 (bi1 (nI k)))))] _ _ _
  refine ex_iload_n (pc := 34) dJ6_bitCount_0f7a4_34 rfl ?_
  refine ex_iload_n (pc := 35) dJ6_bitCount_0f7a4_35 rfl ?_
  refine ex_bipush (pc := 36) (v := (nI 8)) dJ6_bitCount_0f7a4_36 (by decide) ?_
  refine ex_iushr (pc := 38) dJ6_bitCount_0f7a4_38 ?_
  refine ex_iadd (pc := 39) dJ6_bitCount_0f7a4_39 ?_
  refine sx_istore_n (pc := 40) dJ6_bitCount_0f7a4_40 rfl (by decide) ?_
  show Ex _ _ _ _ _ _ [_] _ _ _
  show Ex _ _ _ _ _ _ [some (.int (bi4 (bi3 (bi2 (bi1 (nI k))))))] _ _ _
  refine ex_iload_n (pc := 41) dJ6_bitCount_0f7a4_41 rfl ?_
  refine ex_iload_n (pc := 42) dJ6_bitCount_0f7a4_42 rfl ?_
  refine ex_bipush (pc := 43) (v := (nI 16)) dJ6_bitCount_0f7a4_43 (by decide) ?_
  refine ex_iushr (pc := 45) dJ6_bitCount_0f7a4_45 ?_
  refine ex_iadd (pc := 46) dJ6_bitCount_0f7a4_46 ?_
  refine sx_istore_n (pc := 47) dJ6_bitCount_0f7a4_47 rfl (by decide) ?_
  show Ex _ _ _ _ _ _ [_] _ _ _
  show Ex _ _ _ _ _ _ [some (.int (bi5 (bi4 (bi3 (bi2 (bi1 (nI k)))))))] _ _ _
  refine ex_iload_n (pc := 48) dJ6_bitCount_0f7a4_48 rfl ?_
  refine ex_bipush (pc := 49) (v := (nI 63)) dJ6_bitCount_0f7a4_49 (by decide) ?_
  refine ex_iand (pc := 51) dJ6_bitCount_0f7a4_51 ?_
  refine ex_ret dJ6_bitCount_0f7a4_52 rfl ?_
  exact qi_mk ⟨rfl, (bcI_eq k hk).1⟩
set_option maxHeartbeats 4000000 in
set_option maxRecDepth 100000 in
theorem c_M_many_l {g : Gl} {d ks : Nat} {h : AH} (x : Int64) : ∀ (m k : Nat) (y : Int64), cntL y = m → Ex g mX7_many d 0 ks 4 [some (.long x), none, some (.int (nI k)), some (.long y), none] [] h (qi (fun h' r => h' = h ∧ r = nI (k + cntL y))) := by
  intro m
  induction m using Nat.strongRecOn with
  | _ m ih =>
    intro k y hy
    subst hy
    by_cases hz : y = 0
    · skip
      refine ex_lload_n (pc := 4) dX7_many_4 rfl ?_
      refine ex_lconst (pc := 5) (v := 0) dX7_many_5 (by decide) ?_
      refine ex_lcmp (pc := 6) dX7_many_6 ?_
      refine bx_if_eq_t (pc := 7) (tgt := 22) dX7_many_7 (by decide) ((lg_eq0 _ _).mpr hz) ?_
      refine ex_iload_n (pc := 22) dX7_many_22 rfl ?_
      refine ex_ret dX7_many_23 rfl ?_
      exact qi_mk ⟨rfl, by rw [cntL_0 hz, Nat.add_zero]⟩
    · skip
      refine ex_lload_n (pc := 4) dX7_many_4 rfl ?_
      refine ex_lconst (pc := 5) (v := 0) dX7_many_5 (by decide) ?_
      refine ex_lcmp (pc := 6) dX7_many_6 ?_
      refine bx_if_eq_f (pc := 7) (tgt := 22) dX7_many_7 (by decide) (fun q => hz ((lg_eq0 _ _).mp q)) ?_
      first | refine sx_inc (pc := 10) dX7_many_10 rfl rfl (by decide) ?_ | refine sx_iinc (pc := 10) dX7_many_10 rfl rfl (by decide) ?_
      show Ex _ _ _ _ _ _ [_, _, _, _, _] _ _ _
      refine ex_lload_n (pc := 13) dX7_many_13 rfl ?_
      refine ex_lload_n (pc := 14) dX7_many_14 rfl ?_
      refine ex_lconst (pc := 15) (v := 1) dX7_many_15 (by decide) ?_
      refine ex_lsub (pc := 16) dX7_many_16 ?_
      refine ex_land (pc := 17) dX7_many_17 ?_
      refine sx_lstore_n (pc := 18) dX7_many_18 rfl (by decide) ?_
      show Ex _ _ _ _ _ _ [_, _, _, _, _] _ _ _
      refine ex_goto (pc := 19) (tgt := 4) dX7_many_19 (by decide) ?_
      refine (ih (cntL (y &&& y - 1)) (by have := cntL_down hz; omega) (k + 1) _ rfl).mono (fun h' r a => ?_)
      obtain ⟨x', e, a1, a2⟩ := a
      exact ⟨x', e, a1, by rw [a2, show k + 1 + cntL (y &&& y - 1) = k + cntL y by have := cntL_down hz; omega]⟩
set_option maxHeartbeats 4000000 in
set_option maxRecDepth 100000 in
theorem c_M_many {g : Gl} {d ks : Nat} {h : AH} (x : Int64) : Ex g mX7_many d 0 ks 0 [some (.long x), none, none, none, none] [] h (qi (fun h' r => h' = h ∧ r = nI (cntL x))) := by
  refine ex_iconst (pc := 0) (v := (nI 0)) dX7_many_0 (by decide) ?_
  refine sx_istore_n (pc := 1) dX7_many_1 rfl (by decide) ?_
  show Ex _ _ _ _ _ _ [_, _, _, _, _] _ _ _
  refine ex_lload_n (pc := 2) dX7_many_2 rfl ?_
  refine sx_lstore_n (pc := 3) dX7_many_3 rfl (by decide) ?_
  show Ex _ _ _ _ _ _ [_, _, _, _, _] _ _ _
  refine (c_M_many_l x _ 0 x rfl).mono (fun h' r a => ?_)
  obtain ⟨x', e, a1, a2⟩ := a
  exact ⟨x', e, a1, by rw [a2, Nat.zero_add]⟩
/-- only numbers that no text shows differ -/
def lowE (s s' : Nat → Int32) : Prop := ∀ k, (k = 1 ∨ 90 ≤ k) → s' k = s k
theorem lowE.rf {s : Nat → Int32} : lowE s s := fun _ _ => rfl
theorem lowE.tr {s s' s'' : Nat → Int32} (a : lowE s s') (b : lowE s' s'') : lowE s s'' := fun k hk => (b k hk).trans (a k hk)
theorem lowE.up {s : Nat → Int32} {k : Nat} {v : Int32} (h : k ≠ 1) (h2 : k < 90) : lowE s (upd s k v) := fun j hj => upd_ne (by omega)
theorem lowD.e {s s' : Nat → Int32} (a : lowD s s') : lowE s s' := fun k hk => a k (by omega)
theorem lowE.cm {s : Nat → Int32} {n : Nat} (hn : n < 8) {kd ce si ti : Int32} : lowE s (cmS s n kd ce si ti) := fun k hk => by rw [cmS_lo (by omega)]; exact upd_ne (by omega)
theorem lowE.s90 {s s' : Nat → Int32} (d : lowE s s') : lowD (fun k => if k < 90 ∧ k ≠ 1 then 0 else s k) (fun k => if k < 90 ∧ k ≠ 1 then 0 else s' k) := by
  intro k hk
  by_cases h : k < 90 ∧ k ≠ 1
  · simp only [if_pos h]
  · simp only [if_neg h]; exact d k (by omega)
theorem txtOK.lowE {s s' : Nat → Int32} (d : lowE s s') {t ky L lv : Nat} (h : txtOK s t ky L lv) : txtOK s' t ky L lv := by
  have e : ∀ k, 90 ≤ k → s' k = s k := fun k hk => d k (by omega)
  have e1 : whS s' t = whS s t := by funext k; exact e _ (by omega)
  have e2 : vS s' t = vS s t := by funext k; exact e _ (by omega)
  obtain ⟨h1, h2, h3, h4, h5, h6⟩ := h
  exact ⟨(e _ (by omega)).trans h1, h2, (e _ (by omega)).trans h3, (e _ (by omega)).trans h4, by rw [e1, e2]; exact h5, by rw [e1, e2]; exact h6⟩
theorem TO.lowE {s s' : Nat → Int32} (d : lowE s s') {nt : Nat} (h : TO s nt) : TO s' nt := by
  refine ⟨(d 1 (by omega)).trans h.1, h.2.1, fun t ht => ?_⟩
  obtain ⟨ky, L, lv, q⟩ := h.2.2 t ht
  exact ⟨ky, L, lv, q.lowE d⟩
theorem cntS.lowE {s s' : Nat → Int32} (d : lowE s s') (nt : Nat) (key : Int32) : cntS s' nt key = cntS s nt key := by
  have : keyS s' = keyS s := by funext t; exact d _ (by omega)
  unfold cntS
  rw [this]
theorem CR.updE {g : Gl} {h h' : AH} {b n n' nt : Nat} {s s' : Nat → Int32} (a : CR g h b s n nt) (f : FrX (rmX b) g h h') (d : lowE s s') (hR : RoomB g h' b s' n') (hP : POk s' n') : CR g h' b s' n' nt := by
  obtain ⟨a1, a2, a3, ⟨ft, fl, tx, a4, a5, a6, a7⟩, a8⟩ := a
  refine ⟨hR, hP, a3.lowE d, ⟨ft, fl, tx, f.at (by unfold rmX; omega) (nscr (by omega)) a4, f.at (by unfold rmX; omega) (nscr (by omega)) a5, fun t ht => ?_, fun key hk => ?_⟩, a8⟩
  · obtain ⟨e, ky, L, lv, k1, q, fs, t1, t2, t3, t4⟩ := a6 t ht
    obtain ⟨fs', t3'⟩ := f.2.2 _ (Or.inr (Or.inr ⟨by omega, by omega⟩)) _ _ t3
    refine ⟨e, ky, L, lv, k1.lowE d, q, fs', f.at (by unfold rmX; omega) (by unfold scr; omega) t1, f.at (by unfold rmX; omega) (by unfold scr; omega) t2, t3', fun k hk => ?_⟩
    rw [t4 k hk]
    have e1 : whS s' t k = whS s t k := d _ (by omega)
    have e2 : vS s' t k = vS s t k := d _ (by omega)
    rw [e1, e2]
  · rw [cntS.lowE d]; exact a7 key hk
theorem MR.updE {g : Gl} {h h' : AH} {n n' nt : Nat} {z z' s s' : Nat → Int32} (a : MR g h z s n nt) (f : FrX mX g h h') (d : lowE s s') (hM : Ms g h' z' s') (hP : POk s' n') : MR g h' z' s' n' nt := by
  obtain ⟨a1, a2, a3, ⟨nm, a4⟩, fp, a5⟩ := a
  exact ⟨hM, hP, a3.lowE d, f.2.2 90 (Or.inl rfl) _ _ a4, f.2.2 91 (Or.inr (Or.inl rfl)) _ _ a5⟩
theorem POk.pst {s : Nat → Int32} {n : Nat} (h : POk s n) {i f v m : Nat} (hf : f < 3) (hv : v < m) (hm : m = (if f = 0 then 6 else if f = 1 then 48 else 4)) : POk (upd s (10 + 4 * i + f) (nI v)) n := by
  refine ⟨(upd_ne (by omega)).trans h.1, h.2.1, fun j hj => ?_⟩
  obtain ⟨a1, a2, a3⟩ := h.2.2 j hj
  have ex : ∀ q, q < 3 → ∀ mm : Nat, mm = (if q = 0 then 6 else if q = 1 then 48 else 4) → (∃ x, x < mm ∧ s (10 + 4 * j + q) = nI x) → ∃ x, x < mm ∧ upd s (10 + 4 * i + f) (nI v) (10 + 4 * j + q) = nI x := by
    intro q hq mm hmm h0
    by_cases e : 10 + 4 * i + f = 10 + 4 * j + q
    · obtain rfl : i = j := by omega
      obtain rfl : f = q := by omega
      exact ⟨v, by rw [hmm, ← hm]; exact hv, upd_eq⟩
    · obtain ⟨x, hx, ex⟩ := h0
      exact ⟨x, hx, (upd_ne (fun z => e z.symm)).trans ex⟩
  exact ⟨ex 0 (by omega) _ rfl a1, ex 1 (by omega) _ rfl a2, ex 2 (by omega) _ rfl a3⟩
theorem POk.cm {s : Nat → Int32} {n : Nat} (h : POk s n) (hn : n < 8) {kd ce si : Nat} {ti : Int32} (h1 : kd < 6) (h2 : ce < 48) (h3 : si < 4) : POk (cmS s n (nI kd) (nI ce) (nI si) ti) (n + 1) := by
  refine ⟨cm_0 h.1, by omega, fun j hj => ?_⟩
  by_cases e : j = n
  · subst e
    have q := cmS_pS (s := s) (n := j) (kd := nI kd) (ce := nI ce) (si := nI si) (ti := ti)
    unfold pS po at q
    simp only [ob, Sum.inr.injEq, Prod.mk.injEq, List.cons.injEq, Value.int.injEq] at q
    exact ⟨⟨kd, h1, q.2.1⟩, ⟨ce, h2, q.2.2.1⟩, ⟨si, h3, q.2.2.2.1⟩⟩
  · rw [cmS_lo (by omega), cmS_lo (by omega), cmS_lo (by omega), upd_ne (by omega), upd_ne (by omega), upd_ne (by omega)]
    exact h.2.2 j (by omega)
theorem ps_0 {s : Nat → Int32} {i : Nat} {v : Int32} : ob 0 ([Value.int (s (10 + 4 * i + 0)), .int (s (10 + 4 * i + 1)), .int (s (10 + 4 * i + 2)), .int (s (10 + 4 * i + 3))].set 0 (.int v)) = pS (upd s (10 + 4 * i + 0) v) i := by
  simp [pS, po, upd]
theorem ps_1 {s : Nat → Int32} {i : Nat} {v : Int32} : ob 0 ([Value.int (s (10 + 4 * i + 0)), .int (s (10 + 4 * i + 1)), .int (s (10 + 4 * i + 2)), .int (s (10 + 4 * i + 3))].set 1 (.int v)) = pS (upd s (10 + 4 * i + 1) v) i := by
  simp [pS, po, upd]
/-- a number of a room, of a post, written: what stands then -/
theorem cr_fld {g : Gl} {h : AH} {b n nt : Nat} {s : Nat → Int32} (hC : CR g h b s n nt) {k : Nat} (v : Int32) (h2 : 2 ≤ k) (hk : k < 10) : CR g (h.set b (rmC g b (upd s k v) (setL (wll s) 48))) b (upd s k v) n nt ∧ FrX (rmX b) g h (h.set b (rmC g b (upd s k v) (setL (wll s) 48))) := by
  have f : FrX (rmX b) g h (h.set b (rmC g b (upd s k v) (setL (wll s) 48))) := FrX.rm hC.2.2.2.2
  exact ⟨hC.updE f (lowE.up (by omega) (by omega)) (hC.1.fld v h2 hk) (hC.2.1.low h2 hk), f⟩
theorem cr_pst {g : Gl} {h : AH} {b n nt : Nat} {s : Nat → Int32} (hC : CR g h b s n nt) {i f : Nat} (v : Int32) (hi : i < n) (hf : f < 4) (hP : POk (upd s (10 + 4 * i + f) v) n) : CR g (h.set (b + 4 + i) (pS (upd s (10 + 4 * i + f) v) i)) b (upd s (10 + 4 * i + f) v) n nt ∧ FrX (rmX b) g h (h.set (b + 4 + i) (pS (upd s (10 + 4 * i + f) v) i)) := by
  have hn8 := hC.2.1.2.1
  have hb := hC.2.2.2.2
  have q : FrX (rmX b) g h (h.set (b + 4 + i) (pS (upd s (10 + 4 * i + f) v) i)) := FrX.st (Or.inr ⟨by omega, by omega⟩) (nscr (by omega))
  exact ⟨hC.updE q (lowE.up (by omega) (by omega)) (hC.1.pst v hi hf) hP, q⟩
theorem mr_st {g : Gl} {h : AH} {n n' nt : Nat} {z s s' : Nat → Int32} (a : MR g h z s n nt) (d : lowE s s') (hP : POk s' n') : MR g (h.set 76 (ia g 3090 s')) z s' n' nt ∧ FrX mX g h (h.set 76 (ia g 3090 s')) :=
  ⟨a.updE FrX.ms d (a.1.st s') hP, FrX.ms⟩

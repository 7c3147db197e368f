/-! told rows are checked: the reference; the tape -/
set_option maxHeartbeats 4000000 in
set_option maxRecDepth 100000 in
theorem c_M_check {g : Gl} {d ks : Nat} {h : AH} {z s : Nat → Int32} {n nt : Nat} (hR : MR g h z s n nt) (hT : MT g h) {im wf : Nat → Int32} {ni nti c : Nat} (hz30 : z 30 = nI c) (hc : c ≤ 60) (h93 : h[93]? = some (ia g 60 wf)) (h77 : h[77]? = some (ia g 3090 im)) (hik : z 3 = 0 ∨ z 3 = nI 1) (hI : z 3 = nI 1 → HOk im ni ∧ TO im nti ∧ ∃ hr, hr ≤ 9999 ∧ im 2 = nI hr) (hd : 9 ≤ d) (N : Int32) : Ex g mX7_check d 0 ks 0 [some (.ref (g.1 + 75)), some (.int N), none, none, none] [] h (qi (fun h' r => (MR g h' (upd z 30 (nI 0)) s n nt ∧ MT g h' ∧ FrX mckX g h h') ∧ r = aCheck (z 3) (bkF im s 2890) ni nti wf c N)) := by
  refine ex_aload_n (pc := 0) dX7_check_0 rfl ?_
  refine ex_get (pc := 1) dX7_check_1 fl_X7_387 hR.1.1 rfl ?_
  rw [hz30]
  refine sx_istore_n (pc := 4) dX7_check_4 rfl (by decide) ?_
  show Ex _ _ _ _ _ _ [_, _, _, _, _] _ _ _
  refine ex_aload_n (pc := 5) dX7_check_5 rfl ?_
  refine ex_iconst (pc := 6) (v := (nI 0)) dX7_check_6 (by decide) ?_
  refine ex_put (pc := 7) dX7_check_7 fp_X7_387 hR.1.1 (Nat.le_of_ble_eq_true rfl) rfl rfl ?_
  rw [mo_30]
  have f0 : FrX (fun x => x = 75) g h (h.set 75 (moC g (upd z 30 (nI 0)))) := FrX.st rfl (nscr (by omega))
  have hR1 : MR g (h.set 75 (moC g (upd z 30 (nI 0)))) (upd z 30 (nI 0)) s n nt := mr_z hR (upd z 30 (nI 0))
  have hT1 : MT g (h.set 75 (moC g (upd z 30 (nI 0)))) := hT.fr f0 (fun k hk => by unfold mtX at hk; omega)
  have e3 : (upd z 30 (nI 0)) 3 = z 3 := upd_ne (by decide)
  refine ex_iload_n (pc := 10) dX7_check_10 rfl ?_
  refine ex_i2l (pc := 11) dX7_check_11 ?_
  refine ex_lconst (pc := 12) (v := 1) dX7_check_12 (by decide) ?_
  refine ex_ldc2_w (pc := 13) dX7_check_13 cn_X7_390 ?_
  refine cx_SL3i (pc := 16) dX7_check_16 lk_X7_69 rfl (Nat.le_of_ble_eq_true rfl) (Nat.le_of_ble_eq_true rfl) (by omega) (c_M_inq _ (a := 1) (b := 30) (by decide) (by decide)) (fun h_16 x_16 q_16 => ?_)
  obtain ⟨e_16, f_16⟩ := q_16
  rw [e_16, f_16]
  refine ex_if_ne (pc := 19) (tgt := 25) dX7_check_19 (by decide) (fun c_19 => ?_) (fun c_19 => ?_)
  · skip
    have b_19 := bT c_19
    refine ex_aload_n (pc := 25) dX7_check_25 rfl ?_
    refine ex_get (pc := 26) dX7_check_26 fl_X7_392 hR1.1.1 rfl ?_
    rw [e3]
    refine ex_if_ne (pc := 29) (tgt := 35) dX7_check_29 (by decide) (fun c_29 => ?_) (fun c_29 => ?_)
    · skip
      have e1 : z 3 = nI 1 := hik.resolve_left c_29
      obtain ⟨hok0, hTO, hr, hhr, ehr⟩ := hI e1
      obtain ⟨N0, hN1, hN2, rfl⟩ := bq_ex b_19
      have i_N : ixI (nI N0) = N0 := iK (by omega)
      obtain ⟨f78, h78⟩ := hT1.1
      have ehu : bkF im s 2890 2 = nI hr := (if_pos (by decide)).trans ehr
      have hok : HOk (bkF im s 2890) ni := ⟨hok0.1.ag (bk_agr _ _), by obtain ⟨th, a, b⟩ := hok0.2; exact ⟨th, a, (if_pos (by decide)).trans b⟩⟩
      have eM : ckM (bkF im s 2890) N0 = min N0 (9999 - hr) := by unfold ckM; rw [ehu, iK (by omega)]
      refine ex_aload_n (pc := 35) dX7_check_35 rfl ?_
      refine ex_aload_n (pc := 36) dX7_check_36 rfl ?_
      refine ex_get (pc := 37) dX7_check_37 fl_X7_7 hR1.1.1 rfl ?_
      refine ex_aload_n (pc := 40) dX7_check_40 rfl ?_
      refine ex_get (pc := 41) dX7_check_41 fl_X7_16 hR1.1.1 rfl ?_
      refine cx_VL2v (pc := 44) dX7_check_44 lk_X7_396 hR1.1.1 rfl (Nat.le_of_ble_eq_true rfl) (Nat.le_of_ble_eq_true rfl) (by omega) (c_M_setAside (q0 := 76) (q1 := 78) (by omega) (by omega) hR1.1.2 h78) (fun h_44 q_44 => ?_)
      obtain ⟨m1, m2⟩ := q_44
      have hR2 := hR1.fr m2 (by decide) (by decide)
      refine ex_aload_n (pc := 47) dX7_check_47 rfl ?_
      refine ex_aload_n (pc := 48) dX7_check_48 rfl ?_
      refine ex_get (pc := 49) dX7_check_49 fl_X7_13 hR2.1.1 rfl ?_
      refine ex_aload_n (pc := 52) dX7_check_52 rfl ?_
      refine ex_get (pc := 53) dX7_check_53 fl_X7_7 hR2.1.1 rfl ?_
      refine cx_VL2v (pc := 56) dX7_check_56 lk_X7_396 hR2.1.1 rfl (Nat.le_of_ble_eq_true rfl) (Nat.le_of_ble_eq_true rfl) (by omega) (c_M_setAside (q0 := 77) (q1 := 76) (by omega) (by omega) (m2.at (by decide) (nscr (by omega)) (gs_ne (by decide) h77)) hR2.1.2) (fun h_56 q_56 => ?_)
      obtain ⟨m3, m4⟩ := q_56
      refine ex_iconst (pc := 59) (v := (nI 0)) dX7_check_59 (by decide) ?_
      refine sx_istore_n (pc := 60) dX7_check_60 rfl (by decide) ?_
      show Ex _ _ _ _ _ _ [_, _, _, _, _] _ _ _
      refine ex_iconst (pc := 61) (v := (nI 0)) dX7_check_61 (by decide) ?_
      refine sx_istore (pc := 62) dX7_check_62 rfl (by decide) ?_
      show Ex _ _ _ _ _ _ [_, _, _, _, _] _ _ _
      have hM3 : Ms g h_56 (upd z 30 (nI 0)) (bkF im s 2890) := ⟨m4.at (by decide) (nscr (by omega)) hR2.1.1, m3⟩
      have hR3 : MR g h_56 (upd z 30 (nI 0)) (bkF im s 2890) ni nti := by
        obtain ⟨-, -, -, ⟨nm, a5⟩, fp, a6⟩ := hR2
        exact ⟨hM3, hok.1, hTO.ag (bk_agr _ _), m4.2.2 90 (Or.inl rfl) _ _ a5, m4.2.2 91 (Or.inr (Or.inl rfl)) _ _ a6⟩
      have F3 : FrX mtX g (h.set 75 (moC g (upd z 30 (nI 0)))) h_56 := (m2.mono (fun k hk => Or.inr (Or.inl hk))).tr (m4.mono (fun k hk => Or.inl hk))
      have hT3 : MT g h_56 := by
        obtain ⟨-, ⟨x2, y2⟩, ⟨x3, y3⟩, ⟨x4, y4⟩, x5, y5⟩ := hT1
        exact ⟨⟨_, m4.at (by decide) (nscr (by omega)) m1⟩, ⟨x2, m4.at (by decide) (nscr (by omega)) (m2.at (by decide) (nscr (by omega)) y2)⟩, ⟨x3, m4.at (by decide) (nscr (by omega)) (m2.at (by decide) (nscr (by omega)) y3)⟩, ⟨x4, m4.at (by decide) (by unfold scr; omega) (m2.at (by decide) (by unfold scr; omega) y4)⟩, x5, m4.at (by decide) (by unfold scr; omega) (m2.at (by decide) (by unfold scr; omega) y5)⟩
      obtain ⟨fd, h94⟩ := hT3.2.2.2.2
      refine (c_M_check_1 (h := h.set 75 (moC g (upd z 30 (nI 0)))) (M := ckM (bkF im s 2890) N0) (f78 := f78) hR1 (by omega) eM hhr rfl ehu hok hc (gs_ne (by decide) h93) (by omega) (ckM (bkF im s 2890) N0) 0 h_56 hR3 hT3 F3 (m4.at (by decide) (nscr (by omega)) m1) fd h94 (fun k hk => absurd hk (by omega)) (by omega)).mono (fun h' r a => ?_)
      obtain ⟨x, e, ⟨a1, a2, a3⟩, a4⟩ := a
      refine ⟨x, e, ⟨a1, a2, (f0.mono (fun k hk => Or.inl hk)).tr (a3.mono (fun k hk => Or.inr hk))⟩, ?_⟩
      rw [a4]
      unfold aCheck
      rw [if_pos b_19, if_neg c_29, i_N]
    · skip
      refine ex_ldc (pc := 32) dX7_check_32 cn_X7_165 ?_
      refine ex_ret dX7_check_34 rfl ?_
      refine qi_mk ⟨⟨hR1, hT1, f0.mono (fun k hk => Or.inl hk)⟩, ?_⟩
      unfold aCheck
      rw [if_pos b_19, if_pos c_29]
  · skip
    have b_19 := bF c_19
    refine ex_ldc (pc := 22) dX7_check_22 cn_X7_161 ?_
    refine ex_ret dX7_check_24 rfl ?_
    refine qi_mk ⟨⟨hR1, hT1, f0.mono (fun k hk => Or.inl hk)⟩, ?_⟩
    unfold aCheck
    rw [if_neg (by rw [b_19]; decide)]
def aTrim (tl : Nat) (n : Int32) : Int32 := if bw n (tl + 1) then n else -1000000001
def nTrim (tl : Nat) (n : Int32) : Nat := if bw n (tl + 1) then ixI n else tl
set_option maxHeartbeats 4000000 in
set_option maxRecDepth 100000 in
theorem c_W_trim {g : Gl} {d ks : Nat} {h : AH} {ik wc : Int32} (hW : h[0]? = some (wtC g ik wc)) {r : Nat → Int32} {tl : Nat} (h40 : h[40]? = some (rdC g r)) (hr : r 1 = nI tl) (htl : tl ≤ 96) (hd : 1 ≤ d) (x : Int32) : Ex g mX6_trim d 0 ks 0 [some (.ref (g.1 + 0)), some (.int x)] [] h (qi (fun h' r' => (h'[40]? = some (rdC g (upd r 1 (nI (nTrim tl x)))) ∧ FrX (fun k => k = 40) g h h') ∧ r' = aTrim tl x)) := by
  refine ex_iload_n (pc := 0) dX6_trim_0 rfl ?_
  refine ex_aload_n (pc := 1) dX6_trim_1 rfl ?_
  refine ex_get (pc := 2) dX6_trim_2 fl_X6_44 hW rfl ?_
  refine ex_get (pc := 5) dX6_trim_5 fl_X6_248 h40 rfl ?_
  refine ex_iconst (pc := 8) (v := (nI 1)) dX6_trim_8 (by decide) ?_
  refine ex_iadd (pc := 9) dX6_trim_9 ?_
  rw [hr, nI_add]
  refine cx_SL2i (pc := 10) dX6_trim_10 lk_X6_69 rfl (Nat.le_of_ble_eq_true rfl) (Nat.le_of_ble_eq_true rfl) (by omega) (c_ib _ _) (fun h_10 x_10 q_10 => ?_)
  obtain ⟨e_10, f_10⟩ := q_10
  rw [e_10, f_10]
  refine ex_if_ne (pc := 13) (tgt := 19) dX6_trim_13 (by decide) (fun c_13 => ?_) (fun c_13 => ?_)
  · skip
    have b_13 := bT c_13
    obtain ⟨x0, hx0, rfl⟩ := bw_ex b_13
    have i_x : ixI (nI x0) = x0 := iK (by omega)
    refine ex_aload_n (pc := 19) dX6_trim_19 rfl ?_
    refine ex_get (pc := 20) dX6_trim_20 fl_X6_44 hW rfl ?_
    refine ex_iload_n (pc := 23) dX6_trim_23 rfl ?_
    refine ex_put (pc := 24) dX6_trim_24 fp_X6_248 h40 (Nat.le_of_ble_eq_true rfl) rfl rfl ?_
    rw [rd_1]
    refine ex_iload_n (pc := 27) dX6_trim_27 rfl ?_
    refine ex_ret dX6_trim_28 rfl ?_
    have e1 : nTrim tl (nI x0) = x0 := by simp [nTrim, b_13, i_x]
    rw [e1]
    refine qi_mk ⟨⟨gs_eq h40, FrX.st rfl (nscr (by omega))⟩, ?_⟩
    simp [aTrim, b_13]
  · skip
    have b_13 := bF c_13
    refine ex_ldc (pc := 16) dX6_trim_16 cn_X6_73 ?_
    refine ex_ret dX6_trim_18 rfl ?_
    have e1 : nTrim tl x = tl := by simp [nTrim, b_13]
    rw [e1, ← hr, upd_self]
    refine qi_mk ⟨⟨h40, FrX.rf⟩, ?_⟩
    simp [aTrim, b_13]
theorem c_M_inL {g : Gl} {d ks : Nat} {h : AH} (v : Int32) {n : Nat} (hn : n < 2147483647) : Ex g mX7_isIn d 0 ks 0 [some (.long v.toInt64), none, some (.long 0), none, some (.long (nI n).toInt64), none] [] h (qi (fun h' r => h' = h ∧ r = bI (bw v (n + 1) = true))) :=
  (c_M_isIn v.toInt64 0 _).mono (fun h' r a => by
    obtain ⟨x, e, a1, a2⟩ := a
    exact ⟨x, e, a1, a2.trans (bI_eq (by rw [inR_iffL (by omega), ← inR_iff (by omega)]; simp [bw]))⟩)
set_option maxHeartbeats 4000000 in
set_option maxRecDepth 100000 in
theorem c_M_trim {g : Gl} {d ks : Nat} {h : AH} {z s : Nat → Int32} {n nt : Nat} (hR : MR g h z s n nt) {tl : Nat} (hz : z 15 = nI tl) (htl : tl ≤ 96) (hd : 1 ≤ d) (x : Int32) : Ex g mX7_trim d 0 ks 0 [some (.ref (g.1 + 75)), some (.int x)] [] h (qi (fun h' r' => (MR g h' (upd z 15 (nI (nTrim tl x))) s n nt ∧ FrX (fun k => k = 75) g h h') ∧ r' = aTrim tl x)) := by
  refine ex_iload_n (pc := 0) dX7_trim_0 rfl ?_
  refine ex_i2l (pc := 1) dX7_trim_1 ?_
  refine ex_lconst (pc := 2) (v := 0) dX7_trim_2 (by decide) ?_
  refine ex_aload_n (pc := 3) dX7_trim_3 rfl ?_
  refine ex_get (pc := 4) dX7_trim_4 fl_X7_268 hR.1.1 rfl ?_
  rw [hz]
  refine ex_i2l (pc := 7) dX7_trim_7 ?_
  refine cx_SL3i (pc := 8) dX7_trim_8 lk_X7_69 rfl (Nat.le_of_ble_eq_true rfl) (Nat.le_of_ble_eq_true rfl) (by omega) (c_M_inL _ (by omega)) (fun h_8 x_8 q_8 => ?_)
  obtain ⟨e_8, f_8⟩ := q_8
  rw [e_8, f_8]
  refine ex_if_ne (pc := 11) (tgt := 17) dX7_trim_11 (by decide) (fun c_11 => ?_) (fun c_11 => ?_)
  · skip
    have b_11 := bT c_11
    obtain ⟨x0, hx0, rfl⟩ := bw_ex b_11
    have i_x : ixI (nI x0) = x0 := iK (by omega)
    refine ex_aload_n (pc := 17) dX7_trim_17 rfl ?_
    refine ex_iload_n (pc := 18) dX7_trim_18 rfl ?_
    refine ex_put (pc := 19) dX7_trim_19 fp_X7_268 hR.1.1 (Nat.le_of_ble_eq_true rfl) rfl rfl ?_
    rw [mo_15]
    refine ex_iload_n (pc := 22) dX7_trim_22 rfl ?_
    refine ex_ret dX7_trim_23 rfl ?_
    have e1 : nTrim tl (nI x0) = x0 := by simp [nTrim, b_11, i_x]
    rw [e1]
    refine qi_mk ⟨⟨mr_z hR _, FrX.st rfl (nscr (by omega))⟩, ?_⟩
    simp [aTrim, b_11]
  · skip
    have b_11 := bF c_11
    refine ex_ldc (pc := 14) dX7_trim_14 cn_X7_161 ?_
    refine ex_ret dX7_trim_16 rfl ?_
    have e1 : nTrim tl x = tl := by simp [nTrim, b_11]
    rw [e1, ← hz, upd_self]
    refine qi_mk ⟨⟨hR, FrX.rf⟩, ?_⟩
    simp [aTrim, b_11]
def byt8 (v : Int32) (j : Nat) : Int32 := ush32 v (nI (24 - 8 * j)) &&& nI 255
theorem b3_ush {x : Int32} {k : Nat} (hk : k < 32) (i : Nat) : b3 (ush32 x (nI k)) i = b3 x (k + i) := by
  unfold b3 ush32
  have e : ∀ (u : UInt32), u.toInt32.toBitVec = u.toBitVec := fun u => rfl
  have ha : ∀ k, k < 32 → (((nI k).toUInt32 &&& Int32.toUInt32 31).toBitVec % 32).toNat = k := by decide +kernel
  rw [e, UInt32.toBitVec_shiftRight, BitVec.ushiftRight_eq', ha k hk, BitVec.getLsbD_ushiftRight]
  rfl
theorem b3_shr {x : Int32} {k : Nat} (hk : k < 32) {i : Nat} (hi : k + i < 32) : b3 (shr32 x (nI k)) i = b3 x (k + i) := by
  unfold b3 shr32
  rw [Int32.toBitVec_shiftRight, BitVec.sshiftRight_eq', s3_amt k hk, BitVec.getLsbD_sshiftRight]
  have h1 : ¬ 32 ≤ i := by omega
  simp [h1, hi]
theorem b3_255 : ∀ i, i < 32 → b3 (nI 255) i = decide (i < 8) := by decide +kernel
theorem byt_m {v : Int32} {j : Nat} (hj : j < 4) : shr32 v (nI (24 - 8 * j)) &&& nI 255 = byt8 v j := by
  unfold byt8
  apply b3_ext
  intro i hi
  rw [b3_and, b3_and, b3_255 i hi]
  by_cases h : i < 8
  · rw [b3_shr (by omega) (by omega), b3_ush (by omega)]
  · simp [h]
theorem byt_rng (v : Int32) (j : Nat) : ∃ b, b < 256 ∧ byt8 v j = nI b := by
  unfold byt8
  generalize ush32 v (nI (24 - 8 * j)) = x
  refine ⟨x.toBitVec.toNat % 256, Nat.mod_lt _ (by decide), ?_⟩
  apply Int32.toBitVec_inj.mp
  apply BitVec.eq_of_toNat_eq
  rw [Int32.toBitVec_and, BitVec.toNat_and]
  have e1 : (nI 255).toBitVec.toNat = 255 := by decide
  have e4 := Nat.and_two_pow_sub_one_eq_mod x.toBitVec.toNat 8
  have e5 : (2 : Nat) ^ 8 - 1 = 255 := by decide
  rw [e5] at e4
  rw [e1, e4]
  have q : ∀ b, b < 256 → (nI b).toBitVec.toNat = b := by decide +kernel
  rw [q _ (Nat.mod_lt _ (by decide))]
def selv (a b c : Int32) (k : Nat) : Int32 := if k < 4 then a else if k < 8 then b else c
def fdL (tf : Nat → Int32) (tl : Nat) (w : Nat → Int32) : Nat → Nat → Int32
  | 0 => tf
  | k + 1 => upd (fdL tf tl w k) (tl + k) (byt8 (w k) (k % 4))
def aFeed (tl : Nat) : Int32 := if tl + 12 ≤ 96 then nI (tl + 12) else -1000000003
def nFeed (tf : Nat → Int32) (tl : Nat) (a b c : Int32) : (Nat → Int32) × Nat := if tl + 12 ≤ 96 then (fdL tf tl (selv a b c) 12, tl + 12) else (tf, tl)
theorem fdL_add {tf : Nat → Int32} {tl : Nat} {w : Nat → Int32} : ∀ (j k : Nat), k % 4 = 0 → fdL tf tl w (k + j) = fdL (fdL tf tl w k) (tl + k) (fun i => w (k + i)) j := by
  intro j
  induction j with
  | zero => intro k _; rfl
  | succ j ih =>
    intro k hk
    rw [← Nat.add_assoc, fdL, fdL, ih k hk, show tl + (k + j) = tl + k + j by omega, show (k + j) % 4 = j % 4 by omega]
theorem fdL_c {tf : Nat → Int32} {tl : Nat} {w w' : Nat → Int32} : ∀ (j : Nat), (∀ i, i < j → w i = w' i) → fdL tf tl w j = fdL tf tl w' j := by
  intro j
  induction j with
  | zero => intro _; rfl
  | succ j ih => intro h; rw [fdL, fdL, ih (fun i hi => h i (by omega)), h j (by omega)]
def rdX (k : Nat) : Prop := k = 40 ∨ k = 41
theorem upd_upd {f : Nat → Int32} {k : Nat} {a b : Int32} : upd (upd f k a) k b = upd f k b := by
  funext j
  by_cases e : j = k
  · subst e; rw [upd_eq, upd_eq]
  · rw [upd_ne e, upd_ne e, upd_ne e]
set_option maxHeartbeats 4000000 in
set_option maxRecDepth 100000 in
theorem c_R_takeBytes_1 {g : Gl} {d ks : Nat} {r tf : Nat → Int32} {tl j : Nat} {v x : Int32} (hj : j < 4) (htl : tl + 4 ≤ 96) {h1 : AH} (e40 : h1[40]? = some (rdC g (upd r 1 (nI (tl + j))))) (e41 : h1[41]? = some (ia g 96 (fdL tf tl (fun _ => v) j))) (hx : nI (24 - 8 * j) + Int32.ofInt (-8) = x) {Q : AH → Option Value → Prop}
  (K : Ex g mX1_takeBytes d 0 ks 3 [some (.ref (g.1 + 40)), some (.int v), some (.int x)] [] ((h1.set 41 (ia g 96 (fdL tf tl (fun _ => v) (j + 1)))).set 40 (rdC g (upd r 1 (nI (tl + j + 1))))) Q) : Ex g mX1_takeBytes d 0 ks 3 [some (.ref (g.1 + 40)), some (.int v), some (.int (nI (24 - 8 * (j))))] [] h1 Q := by
  have ef : upd (fdL tf tl (fun _ => v) j) (tl + j) (ush32 v (nI (24 - 8 * j)) &&& nI 255) = fdL tf tl (fun _ => v) (j + 1) := by
    rw [fdL, show j % 4 = j by omega]; rfl
  rw [← ef] at K
  refine ex_iload_n (pc := 3) dX1_takeBytes_3 rfl ?_
  refine bx_if_lt_f (pc := 4) (tgt := 48) dX1_takeBytes_4 (by decide) (nI_pos (by omega)) ?_
  refine ex_aload_n (pc := 7) dX1_takeBytes_7 rfl ?_
  refine ex_get (pc := 8) dX1_takeBytes_8 fl_X1_15 e40 rfl ?_
  refine ex_bipush (pc := 11) (v := (nI 96)) dX1_takeBytes_11 (by decide) ?_
  refine bx_icmp_ge_f (pc := 13) (tgt := 48) dX1_takeBytes_13 (by decide) (by rw [upd_eq]; exact nI_ge (by omega) (by omega)) ?_
  refine ex_aload_n (pc := 16) dX1_takeBytes_16 rfl ?_
  refine ex_get (pc := 17) dX1_takeBytes_17 fl_X1_9 e40 rfl ?_
  refine ex_aload_n (pc := 20) dX1_takeBytes_20 rfl ?_
  refine ex_get (pc := 21) dX1_takeBytes_21 fl_X1_15 e40 rfl ?_
  refine ex_iload_n (pc := 24) dX1_takeBytes_24 rfl ?_
  refine ex_iload_n (pc := 25) dX1_takeBytes_25 rfl ?_
  refine ex_iushr (pc := 26) dX1_takeBytes_26 ?_
  refine ex_sipush (pc := 27) (v := (nI 255)) dX1_takeBytes_27 (by decide) ?_
  refine ex_iand (pc := 30) dX1_takeBytes_30 ?_
  refine ex_istn (k := tl + j) (pc := 31) dX1_takeBytes_31 e41 (upd_eq) (by omega) (by decide) ?_
  refine ex_aload_n (pc := 32) dX1_takeBytes_32 rfl ?_
  refine ex_dup (pc := 33) dX1_takeBytes_33 rfl ?_
  refine ex_get (pc := 34) dX1_takeBytes_34 fl_X1_15 (gs_ne (by decide) e40) rfl ?_
  refine ex_iconst (pc := 37) (v := (nI 1)) dX1_takeBytes_37 (by decide) ?_
  refine ex_iadd (pc := 38) dX1_takeBytes_38 ?_
  refine ex_put (pc := 39) dX1_takeBytes_39 fp_X1_15 (gs_ne (by decide) e40) (Nat.le_of_ble_eq_true rfl) rfl rfl ?_
  rw [rd_1, upd_eq, nI_add, upd_upd]
  refine sx_iinc (pc := 42) dX1_takeBytes_42 rfl rfl (by decide) ?_
  show Ex _ _ _ _ _ _ [_, _, _] _ _ _
  refine ex_goto (pc := 45) (tgt := 3) dX1_takeBytes_45 (by decide) ?_
  rw [hx]
  exact K
set_option maxHeartbeats 4000000 in
set_option maxRecDepth 100000 in
theorem c_R_takeBytes {g : Gl} {d ks : Nat} {h : AH} {r tf : Nat → Int32} {tl : Nat} (h40 : h[40]? = some (rdC g r)) (hr : r 1 = nI tl) (htl : tl + 4 ≤ 96) (h41 : h[41]? = some (ia g 96 tf)) (v : Int32) : Ex g mX1_takeBytes d 0 ks 0 [some (.ref (g.1 + 40)), some (.int v), none] [] h (qv (fun h' => h'[40]? = some (rdC g (upd r 1 (nI (tl + 4)))) ∧ h'[41]? = some (ia g 96 (fdL tf tl (fun _ => v) 4)) ∧ FrX rdX g h h')) := by
  have ez : upd r 1 (nI (tl + 0)) = r := by rw [Nat.add_zero, ← hr]; exact upd_self _ _
  have f2 : ∀ (x : AH) (a b : va_E), FrX rdX g x ((x.set 41 a).set 40 b) := fun x a b => FrX.tr (FrX.st (Or.inr rfl) (nscr (by omega))) (FrX.st (Or.inl rfl) (nscr (by omega)))
  refine ex_bipush (pc := 0) (v := (nI 24)) dX1_takeBytes_0 (by decide) ?_
  refine sx_istore_n (pc := 2) dX1_takeBytes_2 rfl (by decide) ?_
  show Ex _ _ _ _ _ _ [_, _, _] _ _ _
  refine c_R_takeBytes_1 (r := r) (j := 0) (x := nI (24 - 8 * 1)) (by omega) htl (by rw [ez]; exact h40) h41 (by decide) ?_
  refine c_R_takeBytes_1 (r := r) (tf := tf) (tl := tl) (j := 1) (x := nI (24 - 8 * 2)) (by omega) htl (gs_eq (gs_ne (by decide) h40)) (gs_ne (by decide) (gs_eq h41)) (by decide) ?_
  refine c_R_takeBytes_1 (r := r) (tf := tf) (tl := tl) (j := 2) (x := nI (24 - 8 * 3)) (by omega) htl (gs_eq (gs_ne (by decide) (gs_eq (gs_ne (by decide) h40)))) (gs_ne (by decide) (gs_eq (gs_ne (by decide) (gs_eq h41)))) (by decide) ?_
  refine c_R_takeBytes_1 (r := r) (tf := tf) (tl := tl) (j := 3) (x := -8) (by omega) htl (gs_eq (gs_ne (by decide) (gs_eq (gs_ne (by decide) (gs_eq (gs_ne (by decide) h40)))))) (gs_ne (by decide) (gs_eq (gs_ne (by decide) (gs_eq (gs_ne (by decide) (gs_eq h41)))))) (by decide) ?_
  refine ex_iload_n (pc := 3) dX1_takeBytes_3 rfl ?_
  refine bx_if_lt_t (pc := 4) (tgt := 48) dX1_takeBytes_4 (by decide) (by decide) ?_
  refine ex_vret dX1_takeBytes_48 rfl ?_
  exact qv_mk ⟨gs_eq (gs_ne (by decide) (gs_eq (gs_ne (by decide) (gs_eq (gs_ne (by decide) (gs_eq (gs_ne (by decide) h40))))))), gs_ne (by decide) (gs_eq (gs_ne (by decide) (gs_eq (gs_ne (by decide) (gs_eq (gs_ne (by decide) (gs_eq h41))))))), (((f2 _ _ _).tr (f2 _ _ _)).tr (f2 _ _ _)).tr (f2 _ _ _)⟩
theorem fd_12 {tf : Nat → Int32} {tl : Nat} {a b c : Int32} : fdL (fdL (fdL tf tl (fun _ => a) 4) (tl + 4) (fun _ => b) 4) (tl + 8) (fun _ => c) 4 = fdL tf tl (selv a b c) 12 := by
  rw [show (12 : Nat) = 8 + 4 from rfl, fdL_add 4 8 (by decide), show (8 : Nat) = 4 + 4 from rfl, fdL_add 4 4 (by decide)]
  rw [fdL_c (w := selv a b c) (w' := fun _ => a) 4 (fun i hi => if_pos hi), fdL_c (w := fun i => selv a b c (4 + i)) (w' := fun _ => b) 4 (fun i hi => by unfold selv; rw [if_neg (by omega), if_pos (by omega)]), fdL_c (w := fun i => selv a b c (4 + 4 + i)) (w' := fun _ => c) 4 (fun i hi => by unfold selv; rw [if_neg (by omega), if_neg (by omega)])]
set_option maxHeartbeats 4000000 in
set_option maxRecDepth 100000 in
theorem c_W_feed {g : Gl} {d ks : Nat} {h : AH} {ik wc : Int32} (hW : h[0]? = some (wtC g ik wc)) {tf : Nat → Int32} {r : Nat → Int32} {tl : Nat} (h40 : h[40]? = some (rdC g r)) (hr : r 1 = nI tl) (htl : tl ≤ 96) (h41 : h[41]? = some (ia g 96 tf)) (hd : 1 ≤ d) (a b c : Int32) : Ex g mX6_feed d 0 ks 0 [some (.ref (g.1 + 0)), some (.int a), some (.int b), some (.int c)] [] h (qi (fun h' r' => (h'[40]? = some (rdC g (upd r 1 (nI (nFeed tf tl a b c).2))) ∧ h'[41]? = some (ia g 96 (nFeed tf tl a b c).1) ∧ FrX rdX g h h') ∧ r' = aFeed tl)) := by
  refine ex_aload_n (pc := 0) dX6_feed_0 rfl ?_
  refine ex_get (pc := 1) dX6_feed_1 fl_X6_44 hW rfl ?_
  refine ex_get (pc := 4) dX6_feed_4 fl_X6_248 h40 rfl ?_
  refine ex_bipush (pc := 7) (v := (nI 12)) dX6_feed_7 (by decide) ?_
  rw [hr]
  refine ex_iadd (pc := 9) dX6_feed_9 ?_
  rw [nI_add]
  refine ex_bipush (pc := 10) (v := (nI 96)) dX6_feed_10 (by decide) ?_
  refine ex_icmp_le (pc := 12) (tgt := 18) dX6_feed_12 (by decide) (fun c_12 => ?_) (fun c_12 => ?_)
  · skip
    have hc : tl + 12 ≤ 96 := (nI_leI (by omega) (by omega)).mp c_12
    refine ex_aload_n (pc := 18) dX6_feed_18 rfl ?_
    refine ex_get (pc := 19) dX6_feed_19 fl_X6_44 hW rfl ?_
    refine ex_iload_n (pc := 22) dX6_feed_22 rfl ?_
    refine cx_VL1v (pc := 23) dX6_feed_23 lk_X6_251 h40 rfl (Nat.le_of_ble_eq_true rfl) (Nat.le_of_ble_eq_true rfl) (by omega) (c_R_takeBytes h40 hr (by omega) h41 _) (fun h_23 q_23 => ?_)
    obtain ⟨a1, b1, u1⟩ := q_23
    refine ex_aload_n (pc := 26) dX6_feed_26 rfl ?_
    refine ex_get (pc := 27) dX6_feed_27 fl_X6_44 (u1.at (by unfold rdX; omega) (nscr (by omega)) hW) rfl ?_
    refine ex_iload_n (pc := 30) dX6_feed_30 rfl ?_
    refine cx_VL1v (pc := 31) dX6_feed_31 lk_X6_251 a1 rfl (Nat.le_of_ble_eq_true rfl) (Nat.le_of_ble_eq_true rfl) (by omega) (c_R_takeBytes (r := upd r 1 (nI (tl + 4))) (tl := tl + 4) a1 upd_eq (by omega) b1 _) (fun h_31 q_31 => ?_)
    obtain ⟨a2, b2, u2⟩ := q_31
    rw [upd_upd, show tl + 4 + 4 = tl + 8 by omega] at a2
    refine ex_aload_n (pc := 34) dX6_feed_34 rfl ?_
    refine ex_get (pc := 35) dX6_feed_35 fl_X6_44 ((u1.tr u2).at (by unfold rdX; omega) (nscr (by omega)) hW) rfl ?_
    refine ex_iload_n (pc := 38) dX6_feed_38 rfl ?_
    refine cx_VL1v (pc := 39) dX6_feed_39 lk_X6_251 a2 rfl (Nat.le_of_ble_eq_true rfl) (Nat.le_of_ble_eq_true rfl) (by omega) (c_R_takeBytes (r := upd r 1 (nI (tl + 8))) (tl := tl + 8) a2 upd_eq (by omega) b2 _) (fun h_39 q_39 => ?_)
    obtain ⟨a3, b3, u3⟩ := q_39
    rw [upd_upd, show tl + 8 + 4 = tl + 12 by omega] at a3
    rw [fd_12] at b3
    refine ex_aload_n (pc := 42) dX6_feed_42 rfl ?_
    refine ex_get (pc := 43) dX6_feed_43 fl_X6_44 (((u1.tr u2).tr u3).at (by unfold rdX; omega) (nscr (by omega)) hW) rfl ?_
    refine ex_get (pc := 46) dX6_feed_46 fl_X6_248 a3 rfl ?_
    refine ex_ret dX6_feed_49 rfl ?_
    have e1 : nFeed tf tl a b c = (fdL tf tl (selv a b c) 12, tl + 12) := by unfold nFeed; rw [if_pos hc]
    rw [e1]
    refine qi_mk ⟨⟨a3, b3, (u1.tr u2).tr u3⟩, ?_⟩
    unfold aFeed; rw [if_pos hc, upd_eq]
  · skip
    have hc : ¬ tl + 12 ≤ 96 := fun z => c_12 (nI_le z (by omega))
    refine ex_ldc (pc := 15) dX6_feed_15 cn_X6_82 ?_
    refine ex_ret dX6_feed_17 rfl ?_
    have e1 : nFeed tf tl a b c = (tf, tl) := by unfold nFeed; rw [if_neg hc]
    rw [e1]
    refine qi_mk ⟨⟨?_, h41, FrX.rf⟩, ?_⟩
    · rw [← hr, upd_self]; exact h40
    · unfold aFeed; rw [if_neg hc]
def m7589 (k : Nat) : Prop := k = 75 ∨ k = 89
set_option maxHeartbeats 4000000 in
set_option maxRecDepth 100000 in
theorem c_M_feed_l {g : Gl} {d ks : Nat} {h : AH} {z s tf : Nat → Int32} {n nt tl : Nat} (htl : tl + 12 ≤ 96) {a b c : Int32} : ∀ (m k : Nat) (l : Option Value) (h1 : AH), MR g h1 (upd z 15 (nI (tl + k))) s n nt → h1[89]? = some (ia g 96 (fdL tf tl (selv a b c) k)) → FrX m7589 g h h1 → k + m = 12 → Ex g mX7_feed d 0 ks 18 [some (.ref (g.1 + 75)), some (.int a), some (.int b), some (.int c), some (.int (nI (k))), l] [] h1 (qi (fun h' r' => (MR g h' (upd z 15 (nI (tl + 12))) s n nt ∧ h'[89]? = some (ia g 96 (fdL tf tl (selv a b c) 12)) ∧ FrX m7589 g h h') ∧ r' = nI (tl + 12))) := by
  intro m
  induction m with
  | zero =>
    intro k l h1 hR1 h89 hF hk
    refine ex_iload (pc := 18) dX7_feed_18 rfl ?_
    refine ex_bipush (pc := 20) (v := (nI 12)) dX7_feed_20 (by decide) ?_
    refine bx_icmp_ge_t (pc := 22) (tgt := 91) dX7_feed_22 (by decide) (by rw [show k = 12 by omega]; exact Int32.le_refl _) ?_
    refine ex_aload_n (pc := 91) dX7_feed_91 rfl ?_
    refine ex_get (pc := 92) dX7_feed_92 fl_X7_268 hR1.1.1 rfl ?_
    refine ex_ret dX7_feed_95 rfl ?_
    obtain rfl : k = 12 := by omega
    exact qi_mk ⟨⟨hR1, h89, hF⟩, upd_eq⟩
  | succ m ih =>
    intro k l h1 hR1 h89 hF hk
    refine ex_iload (pc := 18) dX7_feed_18 rfl ?_
    refine ex_bipush (pc := 20) (v := (nI 12)) dX7_feed_20 (by decide) ?_
    refine bx_icmp_ge_f (pc := 22) (tgt := 91) dX7_feed_22 (by decide) (nI_ge (by omega) (by omega)) ?_
    refine ex_iload (pc := 25) dX7_feed_25 rfl ?_
    refine ex_iconst (pc := 27) (v := (nI 4)) dX7_feed_27 (by decide) ?_
    refine ex_icmp_ge (pc := 28) (tgt := 35) dX7_feed_28 (by decide) (fun c_28 => ?_) (fun c_28 => ?_)
    · skip
      refine ex_iload (pc := 35) dX7_feed_35 rfl ?_
      refine ex_bipush (pc := 37) (v := (nI 8)) dX7_feed_37 (by decide) ?_
      refine ex_icmp_ge (pc := 39) (tgt := 46) dX7_feed_39 (by decide) (fun c_39 => ?_) (fun c_39 => ?_)
      · skip
        refine ex_iload_n (pc := 46) dX7_feed_46 rfl ?_
        refine sx_istore (pc := 47) dX7_feed_47 rfl (by decide) ?_
        show Ex _ _ _ _ _ _ [_, _, _, _, _, _] _ _ _
        refine ex_aload_n (pc := 49) dX7_feed_49 rfl ?_
        refine ex_get (pc := 50) dX7_feed_50 fl_X7_50 hR1.1.1 rfl ?_
        refine ex_aload_n (pc := 53) dX7_feed_53 rfl ?_
        refine ex_get (pc := 54) dX7_feed_54 fl_X7_268 hR1.1.1 rfl ?_
        rw [upd_eq]
        refine ex_iload (pc := 57) dX7_feed_57 rfl ?_
        refine ex_bipush (pc := 59) (v := (nI 24)) dX7_feed_59 (by decide) ?_
        refine ex_bipush (pc := 61) (v := (nI 8)) dX7_feed_61 (by decide) ?_
        refine ex_iload (pc := 63) dX7_feed_63 rfl ?_
        refine ex_iconst (pc := 65) (v := (nI 4)) dX7_feed_65 (by decide) ?_
        refine ex_irem (pc := 66) dX7_feed_66 (by decide) ?_
        rw [nI_rem (by omega) (by decide) (by decide)]
        refine ex_imul (pc := 67) dX7_feed_67 ?_
        refine ex_isub (pc := 68) dX7_feed_68 ?_
        rw [nI_mul, nI_sub (by omega)]
        refine ex_ishr (pc := 69) dX7_feed_69 ?_
        refine ex_sipush (pc := 70) (v := (nI 255)) dX7_feed_70 (by decide) ?_
        refine ex_iand (pc := 73) dX7_feed_73 ?_
        refine ex_istn (k := tl + k) (pc := 74) dX7_feed_74 h89 rfl (by omega) (by decide) ?_
        refine ex_aload_n (pc := 75) dX7_feed_75 rfl ?_
        refine ex_dup (pc := 76) dX7_feed_76 rfl ?_
        refine ex_get (pc := 77) dX7_feed_77 fl_X7_268 (gs_ne (by decide) hR1.1.1) rfl ?_
        refine ex_iconst (pc := 80) (v := (nI 1)) dX7_feed_80 (by decide) ?_
        refine ex_iadd (pc := 81) dX7_feed_81 ?_
        refine ex_put (pc := 82) dX7_feed_82 fp_X7_268 (gs_ne (by decide) hR1.1.1) (Nat.le_of_ble_eq_true rfl) rfl rfl ?_
        rw [mo_15, upd_eq, nI_add, upd_upd]
        first | refine sx_inc (pc := 85) dX7_feed_85 rfl rfl (by decide) ?_ | refine sx_iinc (pc := 85) dX7_feed_85 rfl rfl (by decide) ?_
        show Ex _ _ _ _ _ _ [_, _, _, _, _, _] _ _ _
        refine ex_goto (pc := 88) (tgt := 18) dX7_feed_88 (by decide) ?_
        have ev : selv a b c k = c := by
          unfold selv
          rw [if_neg (by have := (nI_leI (by omega) (by omega)).mp c_28; omega), if_neg (by have := (nI_leI (by omega) (by omega)).mp c_39; omega)]
        have ef : upd (fdL tf tl (selv a b c) k) (tl + k) (shr32 c (nI (24 - 8 * (k % 4))) &&& nI 255) = fdL tf tl (selv a b c) (k + 1) := by
          rw [fdL, byt_m (Nat.mod_lt _ (by decide)), ev]
        rw [ef]
        refine ih (k + 1) (some (.int c)) _ ?_ (gs_ne (by decide) (gs_eq h89)) (hF.tr (FrX.tr (FrX.st (Or.inr rfl) (nscr (by omega))) (FrX.st (Or.inl rfl) (nscr (by omega))))) (by omega)
        exact mr_z (hR1.fr (S := fun x => x = 89) (FrX.st rfl (nscr (by omega))) (by decide) (by decide)) _
      · skip
        refine ex_iload_n (pc := 42) dX7_feed_42 rfl ?_
        refine ex_goto (pc := 43) (tgt := 47) dX7_feed_43 (by decide) ?_
        refine sx_istore (pc := 47) dX7_feed_47 rfl (by decide) ?_
        show Ex _ _ _ _ _ _ [_, _, _, _, _, _] _ _ _
        refine ex_aload_n (pc := 49) dX7_feed_49 rfl ?_
        refine ex_get (pc := 50) dX7_feed_50 fl_X7_50 hR1.1.1 rfl ?_
        refine ex_aload_n (pc := 53) dX7_feed_53 rfl ?_
        refine ex_get (pc := 54) dX7_feed_54 fl_X7_268 hR1.1.1 rfl ?_
        rw [upd_eq]
        refine ex_iload (pc := 57) dX7_feed_57 rfl ?_
        refine ex_bipush (pc := 59) (v := (nI 24)) dX7_feed_59 (by decide) ?_
        refine ex_bipush (pc := 61) (v := (nI 8)) dX7_feed_61 (by decide) ?_
        refine ex_iload (pc := 63) dX7_feed_63 rfl ?_
        refine ex_iconst (pc := 65) (v := (nI 4)) dX7_feed_65 (by decide) ?_
        refine ex_irem (pc := 66) dX7_feed_66 (by decide) ?_
        rw [nI_rem (by omega) (by decide) (by decide)]
        refine ex_imul (pc := 67) dX7_feed_67 ?_
        refine ex_isub (pc := 68) dX7_feed_68 ?_
        rw [nI_mul, nI_sub (by omega)]
        refine ex_ishr (pc := 69) dX7_feed_69 ?_
        refine ex_sipush (pc := 70) (v := (nI 255)) dX7_feed_70 (by decide) ?_
        refine ex_iand (pc := 73) dX7_feed_73 ?_
        refine ex_istn (k := tl + k) (pc := 74) dX7_feed_74 h89 rfl (by omega) (by decide) ?_
        refine ex_aload_n (pc := 75) dX7_feed_75 rfl ?_
        refine ex_dup (pc := 76) dX7_feed_76 rfl ?_
        refine ex_get (pc := 77) dX7_feed_77 fl_X7_268 (gs_ne (by decide) hR1.1.1) rfl ?_
        refine ex_iconst (pc := 80) (v := (nI 1)) dX7_feed_80 (by decide) ?_
        refine ex_iadd (pc := 81) dX7_feed_81 ?_
        refine ex_put (pc := 82) dX7_feed_82 fp_X7_268 (gs_ne (by decide) hR1.1.1) (Nat.le_of_ble_eq_true rfl) rfl rfl ?_
        rw [mo_15, upd_eq, nI_add, upd_upd]
        first | refine sx_inc (pc := 85) dX7_feed_85 rfl rfl (by decide) ?_ | refine sx_iinc (pc := 85) dX7_feed_85 rfl rfl (by decide) ?_
        show Ex _ _ _ _ _ _ [_, _, _, _, _, _] _ _ _
        refine ex_goto (pc := 88) (tgt := 18) dX7_feed_88 (by decide) ?_
        have ev : selv a b c k = b := by
          unfold selv
          rw [if_neg (by have := (nI_leI (by omega) (by omega)).mp c_28; omega), if_pos (Nat.not_le.mp (fun q => c_39 (nI_le q (by omega))))]
        have ef : upd (fdL tf tl (selv a b c) k) (tl + k) (shr32 b (nI (24 - 8 * (k % 4))) &&& nI 255) = fdL tf tl (selv a b c) (k + 1) := by
          rw [fdL, byt_m (Nat.mod_lt _ (by decide)), ev]
        rw [ef]
        refine ih (k + 1) (some (.int b)) _ ?_ (gs_ne (by decide) (gs_eq h89)) (hF.tr (FrX.tr (FrX.st (Or.inr rfl) (nscr (by omega))) (FrX.st (Or.inl rfl) (nscr (by omega))))) (by omega)
        exact mr_z (hR1.fr (S := fun x => x = 89) (FrX.st rfl (nscr (by omega))) (by decide) (by decide)) _
    · skip
      refine ex_iload_n (pc := 31) dX7_feed_31 rfl ?_
      refine ex_goto (pc := 32) (tgt := 47) dX7_feed_32 (by decide) ?_
      refine sx_istore (pc := 47) dX7_feed_47 rfl (by decide) ?_
      show Ex _ _ _ _ _ _ [_, _, _, _, _, _] _ _ _
      refine ex_aload_n (pc := 49) dX7_feed_49 rfl ?_
      refine ex_get (pc := 50) dX7_feed_50 fl_X7_50 hR1.1.1 rfl ?_
      refine ex_aload_n (pc := 53) dX7_feed_53 rfl ?_
      refine ex_get (pc := 54) dX7_feed_54 fl_X7_268 hR1.1.1 rfl ?_
      rw [upd_eq]
      refine ex_iload (pc := 57) dX7_feed_57 rfl ?_
      refine ex_bipush (pc := 59) (v := (nI 24)) dX7_feed_59 (by decide) ?_
      refine ex_bipush (pc := 61) (v := (nI 8)) dX7_feed_61 (by decide) ?_
      refine ex_iload (pc := 63) dX7_feed_63 rfl ?_
      refine ex_iconst (pc := 65) (v := (nI 4)) dX7_feed_65 (by decide) ?_
      refine ex_irem (pc := 66) dX7_feed_66 (by decide) ?_
      rw [nI_rem (by omega) (by decide) (by decide)]
      refine ex_imul (pc := 67) dX7_feed_67 ?_
      refine ex_isub (pc := 68) dX7_feed_68 ?_
      rw [nI_mul, nI_sub (by omega)]
      refine ex_ishr (pc := 69) dX7_feed_69 ?_
      refine ex_sipush (pc := 70) (v := (nI 255)) dX7_feed_70 (by decide) ?_
      refine ex_iand (pc := 73) dX7_feed_73 ?_
      refine ex_istn (k := tl + k) (pc := 74) dX7_feed_74 h89 rfl (by omega) (by decide) ?_
      refine ex_aload_n (pc := 75) dX7_feed_75 rfl ?_
      refine ex_dup (pc := 76) dX7_feed_76 rfl ?_
      refine ex_get (pc := 77) dX7_feed_77 fl_X7_268 (gs_ne (by decide) hR1.1.1) rfl ?_
      refine ex_iconst (pc := 80) (v := (nI 1)) dX7_feed_80 (by decide) ?_
      refine ex_iadd (pc := 81) dX7_feed_81 ?_
      refine ex_put (pc := 82) dX7_feed_82 fp_X7_268 (gs_ne (by decide) hR1.1.1) (Nat.le_of_ble_eq_true rfl) rfl rfl ?_
      rw [mo_15, upd_eq, nI_add, upd_upd]
      first | refine sx_inc (pc := 85) dX7_feed_85 rfl rfl (by decide) ?_ | refine sx_iinc (pc := 85) dX7_feed_85 rfl rfl (by decide) ?_
      show Ex _ _ _ _ _ _ [_, _, _, _, _, _] _ _ _
      refine ex_goto (pc := 88) (tgt := 18) dX7_feed_88 (by decide) ?_
      have ev : selv a b c k = a := if_pos (Nat.not_le.mp (fun q => c_28 (nI_le q (by omega))))
      have ef : upd (fdL tf tl (selv a b c) k) (tl + k) (shr32 a (nI (24 - 8 * (k % 4))) &&& nI 255) = fdL tf tl (selv a b c) (k + 1) := by
        rw [fdL, byt_m (Nat.mod_lt _ (by decide)), ev]
      rw [ef]
      refine ih (k + 1) (some (.int a)) _ ?_ (gs_ne (by decide) (gs_eq h89)) (hF.tr (FrX.tr (FrX.st (Or.inr rfl) (nscr (by omega))) (FrX.st (Or.inl rfl) (nscr (by omega))))) (by omega)
      exact mr_z (hR1.fr (S := fun x => x = 89) (FrX.st rfl (nscr (by omega))) (by decide) (by decide)) _
set_option maxHeartbeats 4000000 in
set_option maxRecDepth 100000 in
theorem c_M_feed {g : Gl} {d ks : Nat} {h : AH} {z s : Nat → Int32} {n nt : Nat} (hR : MR g h z s n nt) {tf : Nat → Int32} {tl : Nat} (hz : z 15 = nI tl) (htl : tl ≤ 96) (h89 : h[89]? = some (ia g 96 tf)) (a b c : Int32) : Ex g mX7_feed d 0 ks 0 [some (.ref (g.1 + 75)), some (.int a), some (.int b), some (.int c), none, none] [] h (qi (fun h' r' => (MR g h' (upd z 15 (nI (nFeed tf tl a b c).2)) s n nt ∧ h'[89]? = some (ia g 96 (nFeed tf tl a b c).1) ∧ FrX m7589 g h h') ∧ r' = aFeed tl)) := by
  refine ex_aload_n (pc := 0) dX7_feed_0 rfl ?_
  refine ex_get (pc := 1) dX7_feed_1 fl_X7_268 hR.1.1 rfl ?_
  refine ex_bipush (pc := 4) (v := (nI 12)) dX7_feed_4 (by decide) ?_
  rw [hz]
  refine ex_iadd (pc := 6) dX7_feed_6 ?_
  rw [nI_add]
  refine ex_bipush (pc := 7) (v := (nI 96)) dX7_feed_7 (by decide) ?_
  refine ex_icmp_le (pc := 9) (tgt := 15) dX7_feed_9 (by decide) (fun c_9 => ?_) (fun c_9 => ?_)
  · skip
    have hc : tl + 12 ≤ 96 := (nI_leI (by omega) (by omega)).mp c_9
    refine ex_iconst (pc := 15) (v := (nI 0)) dX7_feed_15 (by decide) ?_
    refine sx_istore (pc := 16) dX7_feed_16 rfl (by decide) ?_
    show Ex _ _ _ _ _ _ [_, _, _, _, _, _] _ _ _
    have e1 : nFeed tf tl a b c = (fdL tf tl (selv a b c) 12, tl + 12) := by unfold nFeed; rw [if_pos hc]
    rw [e1]
    refine (c_M_feed_l (h := h) (z := z) (s := s) (n := n) (nt := nt) hc 12 0 _ h ?_ h89 FrX.rf (by omega)).mono (fun h' r q => ?_)
    · rw [Nat.add_zero, ← hz, upd_self]; exact hR
    · obtain ⟨x, e, q1, q2⟩ := q
      exact ⟨x, e, q1, by rw [q2]; unfold aFeed; rw [if_pos hc]⟩
  · skip
    have hc : ¬ tl + 12 ≤ 96 := fun z => c_9 (nI_le z (by omega))
    refine ex_ldc (pc := 12) dX7_feed_12 cn_X7_166 ?_
    refine ex_ret dX7_feed_14 rfl ?_
    have e1 : nFeed tf tl a b c = (tf, tl) := by unfold nFeed; rw [if_neg hc]
    rw [e1]
    refine qi_mk ⟨⟨?_, h89, FrX.rf⟩, ?_⟩
    · rw [← hz, upd_self]; exact hR
    · unfold aFeed; rw [if_neg hc]

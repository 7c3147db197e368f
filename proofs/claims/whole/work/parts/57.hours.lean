/-! what an hour changes, number by number; hours, room -/
theorem mv_at {s : Nat → Int32} {k : Nat} (h7 : k ≠ 7) (h9 : k ≠ 9) : mvS s k = s k := by
  cases hx : nxt (dN (s 9) % 4) (thf s) with
  | none => rw [mv_same hx]; exact upd_ne h9
  | some c =>
    by_cases hw : wll s c = true
    · rw [mv_wall hx hw]; exact upd_ne h9
    · rw [mv_go hx hw, upd_ne h7]; exact upd_ne h9
theorem fnd_at {s : Nat → Int32} {nt n k : Nat} (h5 : k ≠ 5) (h6 : k ≠ 6) (h9 : k ≠ 9) : fndS s nt n k = s k := by
  unfold fndS
  split
  · rw [upd_ne h6]; exact upd_ne h9
  · rw [upd_ne h5]; exact upd_ne h9
theorem fnd_5 {s : Nat → Int32} {nt n : Nat} : fndS s nt n 5 = s 5 ∨ fndS s nt n 5 = s 5 + nI 1 := by
  unfold fndS
  split
  · left; rw [upd_ne (by omega)]; exact upd_ne (by omega)
  · right; rw [upd_eq, show drS s 5 = s 5 from upd_ne (by omega)]
theorem tir_at {s : Nat → Int32} : ∀ (k j : Nat), (∀ i, i < k → j ≠ 10 + 4 * i + 3) → tirS s k j = s j := by
  intro k
  induction k with
  | zero => intro j _; rfl
  | succ k ih =>
    intro j h
    rw [tirS, upd_ne (h k (by omega))]
    exact ih j (fun i hi => h i (by omega))
theorem trn_at {s : Nat → Int32} {n k : Nat} (h9 : k ≠ 9) (h : ∀ i, k ≠ 10 + 4 * i + 2) : trnS s n k = s k := by
  unfold trnS
  split
  · rw [upd_ne (h _)]; exact (upd_ne h9).trans (upd_ne h9)
  · exact upd_ne h9
theorem hr_2 {s : Nat → Int32} {nt n : Nat} : hrS s nt n 2 = s 2 + nI 1 := by
  unfold hrS
  rw [upd_eq, trn_at (by omega) (by omega), tir_at _ _ (by omega), fnd_at (by omega) (by omega) (by omega), mv_at (by omega) (by omega)]
theorem hr_5 {s : Nat → Int32} {nt n : Nat} : hrS s nt n 5 = s 5 ∨ hrS s nt n 5 = s 5 + nI 1 := by
  unfold hrS
  rw [upd_ne (by omega), trn_at (by omega) (by omega), tir_at _ _ (by omega)]
  have e : mvS s 5 = s 5 := mv_at (by omega) (by omega)
  rcases fnd_5 (s := mvS s) (nt := nt) (n := n) with q | q
  · left; rw [q, e]
  · right; rw [q, e]
theorem hr_34 {s : Nat → Int32} {nt n k : Nat} (hk : k = 3 ∨ k = 4) : hrS s nt n k = s k := by
  unfold hrS
  rw [upd_ne (by omega), trn_at (by omega) (by omega), tir_at _ _ (by omega), fnd_at (by omega) (by omega) (by omega), mv_at (by omega) (by omega)]
theorem hld_99 (v : Int32) : ∃ t, t ≤ 99 ∧ hld v (nI 99) = nI t := by
  have e : (nI 99).toInt = 99 := by decide
  have e0 : (0 : Int32).toInt = 0 := by decide
  unfold hld mx32 mn32
  by_cases h2 : nI 99 < v
  · rw [if_pos h2]
    exact ⟨99, by omega, by decide⟩
  · rw [if_neg h2]
    by_cases h3 : (0 : Int32) < v
    · rw [if_pos h3]
      obtain ⟨k, hk, rfl⟩ := nI_of (x := v) (fun z => by rw [Int32.lt_iff_toInt_lt] at h3 z; omega)
      exact ⟨k, Nat.not_lt.mp (fun z => h2 (nI_lt z hk)), rfl⟩
    · rw [if_neg h3]; exact ⟨0, by omega, rfl⟩
/-- how tired posts are: 0 to 99 -/
def TRk (s : Nat → Int32) (n : Nat) : Prop := ∀ i, i < n → ∃ t, t ≤ 99 ∧ s (10 + 4 * i + 3) = nI t
theorem tir_rng {s : Nat → Int32} : ∀ (k i : Nat), i < k → ∃ t, t ≤ 99 ∧ tirS s k (10 + 4 * i + 3) = nI t := by
  intro k
  induction k with
  | zero => intro i h; omega
  | succ k ih =>
    intro i h
    rw [tirS]
    by_cases e : i = k
    · subst e; rw [upd_eq]; exact hld_99 _
    · rw [upd_ne (by omega)]; exact ih i (by omega)
theorem hr_trd {s : Nat → Int32} {nt n : Nat} : TRk (hrS s nt n) n := by
  intro i hi
  unfold hrS
  rw [upd_ne (by omega), trn_at (by omega) (by omega)]
  exact tir_rng n i hi
theorem hrs_trd {s : Nat → Int32} {nt n : Nat} (h : TRk s n) (k : Nat) : TRk (hrsS s nt n k) n := by
  cases k with
  | zero => exact h
  | succ k => exact hr_trd
theorem hrs_2 {s : Nat → Int32} {nt n : Nat} : ∀ (k hr : Nat), s 2 = nI hr → hrsS s nt n k 2 = nI (hr + k) := by
  intro k
  induction k with
  | zero => intro hr h; exact h
  | succ k ih => intro hr h; rw [hrsS, hr_2, ih hr h, nI_add]; rfl
theorem hrs_5 {s : Nat → Int32} {nt n : Nat} : ∀ (k c : Nat), s 5 = nI c → ∃ c', c ≤ c' ∧ c' ≤ c + k ∧ hrsS s nt n k 5 = nI c' := by
  intro k
  induction k with
  | zero => intro c h; exact ⟨c, by omega, by omega, h⟩
  | succ k ih =>
    intro c h
    obtain ⟨c', h1, h2, e⟩ := ih c h
    rcases hr_5 (s := hrsS s nt n k) (nt := nt) (n := n) with q | q
    · exact ⟨c', by omega, by omega, by rw [hrsS, q, e]⟩
    · exact ⟨c' + 1, by omega, by omega, by rw [hrsS, q, e, nI_add]⟩
theorem bq_f1 {N : Int32} {a b : Nat} (h : N < nI a) : bq N a b = false := decide_eq_false (fun q => absurd h (Int32.not_lt.mpr q.1))
theorem bq_f2 {N : Int32} {a b : Nat} (h : ¬ N ≤ nI b) : bq N a b = false := decide_eq_false (fun q => h q.2)
theorem bq_t {N : Int32} {a b : Nat} (h : ¬ N < nI a) (h2 : N ≤ nI b) : bq N a b = true := decide_eq_true ⟨Int32.not_lt.mp h, h2⟩
def hrN (s : Nat → Int32) (N : Int32) : Nat := (mn32 N (nI 9999 - s 2)).toNatClampNeg
noncomputable def aHours (s : Nat → Int32) (n nt : Nat) (N : Int32) : Int32 := if bq N 1 100 then hrsS s nt n (hrN s N) 5 - s 5 else -1000000001
noncomputable def nHours (s : Nat → Int32) (n nt : Nat) (N : Int32) : Nat → Int32 := if bq N 1 100 then hrsS s nt n (hrN s N) else s
theorem hr_nt {s : Nat → Int32} {n nt : Nat} {N : Int32} (h : bq N 1 100 = true) : nHours s n nt N = hrsS s nt n (hrN s N) ∧ aHours s n nt N = hrsS s nt n (hrN s N) 5 - s 5 := by
  unfold nHours aHours
  rw [if_pos h, if_pos h]
  exact ⟨rfl, rfl⟩
theorem hr_nf {s : Nat → Int32} {n nt : Nat} {N : Int32} (h : bq N 1 100 = false) : nHours s n nt N = s ∧ aHours s n nt N = -1000000001 := by
  unfold nHours aHours
  rw [if_neg (by rw [h]; decide), if_neg (by rw [h]; decide)]
  exact ⟨rfl, rfl⟩
set_option maxHeartbeats 4000000 in
set_option maxRecDepth 100000 in
theorem c_W_hours {g : Gl} {d ks : Nat} {h : AH} {ik wc : Int32} {s : Nat → Int32} {n nt : Nat} (hW : h[0]? = some (wtC g ik wc)) (hC : CR g h 1 s n nt) (hok : HOk s n) (hd : 5 ≤ d) (N : Int32) : Ex g mX6_hours d 0 ks 0 [some (.ref (g.1 + 0)), some (.int N), none] [] h (qi (fun h' r => (CR g h' 1 (nHours s n nt N) n nt ∧ FrX (rmX 1) g h h') ∧ r = (aHours s n nt N))) := by
  have hR := hC.1
  have hP := hC.2.1
  have hn8 := hP.2.1
  have hN := hR.2.1
  obtain ⟨fp, hfp, hfp2⟩ := hR.2.2.2.1
  refine ex_iload_n (pc := 0) dX6_hours_0 rfl ?_
  refine ex_iconst (pc := 1) (v := (nI 1)) dX6_hours_1 (by decide) ?_
  refine ex_icmp_lt (pc := 2) (tgt := 11) dX6_hours_2 (by decide) (fun c_2 => ?_) (fun c_2 => ?_)
  · skip
    refine ex_ldc (pc := 11) dX6_hours_11 cn_X6_73 ?_
    refine ex_ret dX6_hours_13 rfl ?_
    obtain ⟨e1, e2⟩ := hr_nf (s := s) (n := n) (nt := nt) (bq_f1 c_2)
    rw [e1, e2]
    exact qi_mk ⟨⟨hC, FrX.rf⟩, rfl⟩
  · skip
    refine ex_iload_n (pc := 5) dX6_hours_5 rfl ?_
    refine ex_bipush (pc := 6) (v := (nI 100)) dX6_hours_6 (by decide) ?_
    refine ex_icmp_le (pc := 8) (tgt := 14) dX6_hours_8 (by decide) (fun c_8 => ?_) (fun c_8 => ?_)
    · skip
      refine ex_aload_n (pc := 14) dX6_hours_14 rfl ?_
      refine ex_get (pc := 15) dX6_hours_15 fl_X6_10 hW rfl ?_
      refine ex_get (pc := 18) dX6_hours_18 fl_X6_209 hR.1 rfl ?_
      refine sx_istore_n (pc := 21) dX6_hours_21 rfl (by decide) ?_
      show Ex _ _ _ _ _ _ [_, _, _] _ _ _
      refine ex_aload_n (pc := 22) dX6_hours_22 rfl ?_
      refine ex_get (pc := 23) dX6_hours_23 fl_X6_10 hW rfl ?_
      refine ex_iload_n (pc := 26) dX6_hours_26 rfl ?_
      refine ex_sipush (pc := 27) (v := (nI 9999)) dX6_hours_27 (by decide) ?_
      refine ex_aload_n (pc := 30) dX6_hours_30 rfl ?_
      refine ex_get (pc := 31) dX6_hours_31 fl_X6_10 hW rfl ?_
      refine ex_get (pc := 34) dX6_hours_34 fl_X6_106 hR.1 rfl ?_
      refine ex_isub (pc := 37) dX6_hours_37 ?_
      refine cx_SL2i (pc := 38) dX6_hours_38 lk_X6_165 rfl (Nat.le_of_ble_eq_true rfl) (Nat.le_of_ble_eq_true rfl) (by omega) (c_min _ _) (fun h_38 x_38 q_38 => ?_)
      obtain ⟨e_38, f_38⟩ := q_38
      rw [e_38, f_38]
      refine cx_VL1v (pc := 41) dX6_hours_41 lk_X6_212 hR.1 rfl (Nat.le_of_ble_eq_true rfl) (Nat.le_of_ble_eq_true rfl) (by omega) (c_R_passHours hC hok (by omega) _) (fun h_41 q_41 => ?_)
      obtain ⟨r1, u1⟩ := q_41
      refine ex_aload_n (pc := 44) dX6_hours_44 rfl ?_
      refine ex_get (pc := 45) dX6_hours_45 fl_X6_10 (u1.at (by unfold rmX; omega) (nscr (by omega)) hW) rfl ?_
      refine ex_get (pc := 48) dX6_hours_48 fl_X6_209 r1.1.1 rfl ?_
      refine ex_iload_n (pc := 51) dX6_hours_51 rfl ?_
      refine ex_isub (pc := 52) dX6_hours_52 ?_
      refine ex_ret dX6_hours_53 rfl ?_
      obtain ⟨e1, e2⟩ := hr_nt (s := s) (n := n) (nt := nt) (bq_t c_2 c_8)
      have eN : hrN s N = (mn32 N (nI 9999 - s 2)).toNatClampNeg := rfl
      rw [e1, e2, eN]
      exact qi_mk ⟨⟨r1, u1⟩, rfl⟩
    · skip
      refine ex_ldc (pc := 11) dX6_hours_11 cn_X6_73 ?_
      refine ex_ret dX6_hours_13 rfl ?_
      obtain ⟨e1, e2⟩ := hr_nf (s := s) (n := n) (nt := nt) (bq_f2 c_8)
      rw [e1, e2]
      exact qi_mk ⟨⟨hC, FrX.rf⟩, rfl⟩
set_option maxHeartbeats 4000000 in
set_option maxRecDepth 100000 in
theorem c_M_hours {g : Gl} {d ks : Nat} {h : AH} {z s : Nat → Int32} {n nt : Nat} (hR : MR g h z s n nt) (hok : HOk s n) (hd : 9 ≤ d) (N : Int32) : Ex g mX7_hours d 0 ks 0 [some (.ref (g.1 + 75)), some (.int N), none, none] [] h (qi (fun h' r => (MR g h' z (nHours s n nt N) n nt ∧ FrX mX g h h') ∧ r = (aHours s n nt N))) := by
  have hM := hR.1
  have hP := hR.2.1
  have hn8 := hP.2.1
  have hN := hP.1
  refine ex_iload_n (pc := 0) dX7_hours_0 rfl ?_
  refine ex_i2l (pc := 1) dX7_hours_1 ?_
  refine ex_lconst (pc := 2) (v := 1) dX7_hours_2 (by decide) ?_
  refine ex_ldc2_w (pc := 3) dX7_hours_3 cn_X7_198 ?_
  refine cx_SL3i (pc := 6) dX7_hours_6 lk_X7_69 rfl (Nat.le_of_ble_eq_true rfl) (Nat.le_of_ble_eq_true rfl) (by omega) (c_M_inq _ (a := 1) (b := 100) (by decide) (by decide)) (fun h_6 x_6 q_6 => ?_)
  obtain ⟨e_6, f_6⟩ := q_6
  rw [e_6, f_6]
  refine ex_if_ne (pc := 9) (tgt := 15) dX7_hours_9 (by decide) (fun c_9 => ?_) (fun c_9 => ?_)
  · skip
    have b_9 := bT c_9
    refine ex_aload_n (pc := 15) dX7_hours_15 rfl ?_
    refine ex_get (pc := 16) dX7_hours_16 fl_X7_7 hM.1 rfl ?_
    refine ex_iconst (pc := 19) (v := (nI 5)) dX7_hours_19 (by decide) ?_
    refine ex_ildn (k := 5) (pc := 20) dX7_hours_20 hM.2 rfl (by decide) (by decide) ?_
    refine sx_istore_n (pc := 21) dX7_hours_21 rfl (by decide) ?_
    show Ex _ _ _ _ _ _ [_, _, _, _] _ _ _
    refine ex_sipush (pc := 22) (v := (nI 9999)) dX7_hours_22 (by decide) ?_
    refine ex_aload_n (pc := 25) dX7_hours_25 rfl ?_
    refine ex_get (pc := 26) dX7_hours_26 fl_X7_7 hM.1 rfl ?_
    refine ex_iconst (pc := 29) (v := (nI 2)) dX7_hours_29 (by decide) ?_
    refine ex_ildn (k := 2) (pc := 30) dX7_hours_30 hM.2 rfl (by decide) (by decide) ?_
    refine ex_isub (pc := 31) dX7_hours_31 ?_
    refine sx_istore_n (pc := 32) dX7_hours_32 rfl (by decide) ?_
    show Ex _ _ _ _ _ _ [_, _, _, _] _ _ _
    refine ex_aload_n (pc := 33) dX7_hours_33 rfl ?_
    refine ex_iload_n (pc := 34) dX7_hours_34 rfl ?_
    refine ex_iload_n (pc := 35) dX7_hours_35 rfl ?_
    refine ex_icmp_ge (pc := 36) (tgt := 43) dX7_hours_36 (by decide) (fun c_36 => ?_) (fun c_36 => ?_)
    · skip
      refine ex_iload_n (pc := 43) dX7_hours_43 rfl ?_
      refine cx_VL1v (pc := 44) dX7_hours_44 lk_X7_240 hM.1 rfl (Nat.le_of_ble_eq_true rfl) (Nat.le_of_ble_eq_true rfl) (by omega) (c_M_goesOnMany hR hok (by omega) _) (fun h_44 q_44 => ?_)
      obtain ⟨r1, u1⟩ := q_44
      refine ex_aload_n (pc := 47) dX7_hours_47 rfl ?_
      refine ex_get (pc := 48) dX7_hours_48 fl_X7_7 r1.1.1 rfl ?_
      refine ex_iconst (pc := 51) (v := (nI 5)) dX7_hours_51 (by decide) ?_
      refine ex_ildn (k := 5) (pc := 52) dX7_hours_52 r1.1.2 rfl (by decide) (by decide) ?_
      refine ex_iload_n (pc := 53) dX7_hours_53 rfl ?_
      refine ex_isub (pc := 54) dX7_hours_54 ?_
      refine ex_ret dX7_hours_55 rfl ?_
      have em : mn32 N (nI 9999 - s 2) = nI 9999 - s 2 := by
        unfold mn32
        by_cases q : nI 9999 - s 2 < N
        · rw [if_pos q]
        · rw [if_neg q]; exact Int32.le_antisymm (Int32.not_lt.mp q) c_36
      obtain ⟨e1, e2⟩ := hr_nt (s := s) (n := n) (nt := nt) b_9
      have eN : hrN s N = (nI 9999 - s 2).toNatClampNeg := by unfold hrN; rw [em]
      rw [e1, e2, eN]
      exact qi_mk ⟨⟨r1, u1⟩, rfl⟩
    · skip
      refine ex_iload_n (pc := 39) dX7_hours_39 rfl ?_
      refine ex_goto (pc := 40) (tgt := 44) dX7_hours_40 (by decide) ?_
      refine cx_VL1v (pc := 44) dX7_hours_44 lk_X7_240 hM.1 rfl (Nat.le_of_ble_eq_true rfl) (Nat.le_of_ble_eq_true rfl) (by omega) (c_M_goesOnMany hR hok (by omega) _) (fun h_44 q_44 => ?_)
      obtain ⟨r1, u1⟩ := q_44
      refine ex_aload_n (pc := 47) dX7_hours_47 rfl ?_
      refine ex_get (pc := 48) dX7_hours_48 fl_X7_7 r1.1.1 rfl ?_
      refine ex_iconst (pc := 51) (v := (nI 5)) dX7_hours_51 (by decide) ?_
      refine ex_ildn (k := 5) (pc := 52) dX7_hours_52 r1.1.2 rfl (by decide) (by decide) ?_
      refine ex_iload_n (pc := 53) dX7_hours_53 rfl ?_
      refine ex_isub (pc := 54) dX7_hours_54 ?_
      refine ex_ret dX7_hours_55 rfl ?_
      have em : mn32 N (nI 9999 - s 2) = N := if_neg (fun q => c_36 (Int32.le_of_lt q))
      obtain ⟨e1, e2⟩ := hr_nt (s := s) (n := n) (nt := nt) b_9
      have eN : hrN s N = (N).toNatClampNeg := by unfold hrN; rw [em]
      rw [e1, e2, eN]
      exact qi_mk ⟨⟨r1, u1⟩, rfl⟩
  · skip
    have b_9 := bF c_9
    refine ex_ldc (pc := 12) dX7_hours_12 cn_X7_161 ?_
    refine ex_ret dX7_hours_14 rfl ?_
    obtain ⟨e1, e2⟩ := hr_nf (s := s) (n := n) (nt := nt) (b_9)
    rw [e1, e2]
    exact qi_mk ⟨⟨hR, FrX.rf⟩, rfl⟩
theorem cb_snoc : ∀ (k : Nat) (f : Nat → Bool), cbF f (k + 1) = cbF f k + (f k).toNat := by
  intro k
  induction k with
  | zero => intro f; rw [cbF, cbF, cbF]; omega
  | succ k ih => intro f; rw [cbF, ih, cbF]; omega
theorem cb_pad {f : Nat → Bool} {m : Nat} (h : ∀ i, m ≤ i → f i = false) : ∀ j, cbF f (m + j) = cbF f m := by
  intro j
  induction j with
  | zero => rfl
  | succ j ih => rw [← Nat.add_assoc, cb_snoc, ih, h (m + j) (by omega)]; rfl
theorem cb_congr : ∀ (k : Nat) (f u : Nat → Bool), (∀ i, i < k → f i = u i) → cbF f k = cbF u k := by
  intro k
  induction k with
  | zero => intro f u _; rfl
  | succ k ih => intro f u h; rw [cb_snoc, cb_snoc, ih f u (fun i hi => h i (by omega)), h k (by omega)]
theorem wl_cnt {s : Nat → Int32} (h : WOk s) : smF (fun c => s (42 + c)) 48 = nI (cntL (setL (wll s) 48)) := by
  have e : cntL (setL (wll s) 48) = cbF (wll s) 48 := by
    rw [cntL_cb]
    have q := cb_pad (f := bL (setL (wll s) 48)) (m := 48) (setL_48s _) 16
    rw [q]
    exact cb_congr 48 _ _ (fun i hi => by rw [b48 (by omega)]; simp [hi])
  rw [e]
  have : ∀ k, k ≤ 48 → smF (fun c => s (42 + c)) k = nI (cbF (wll s) k) := by
    intro k
    induction k with
    | zero => intro _; rfl
    | succ k ih =>
      intro hk
      rw [smF, ih (by omega), cb_snoc, ← nI_add]
      have e : s (42 + k) = nI ((wll s k).toNat) := by
        unfold wll
        rcases h k (by omega) with q | q
        · rw [q]; decide
        · rw [q]; decide
      rw [e]
  exact this 48 (by omega)
def aRoom (s : Nat → Int32) (n : Nat) (w : Int32) : Int32 := if bw w 5 then stdS s n (ixI w) else if w = nI 5 then nI (cntL (setL (wll s) 48)) else -1000000001
set_option maxHeartbeats 4000000 in
set_option maxRecDepth 100000 in
theorem c_W_room {g : Gl} {d ks : Nat} {h : AH} {ik wc : Int32} {s : Nat → Int32} {n nt : Nat} (hW : h[0]? = some (wtC g ik wc)) (hC : CR g h 1 s n nt) (hd : 3 ≤ d) (w : Int32) : Ex g mX6_room d 0 ks 0 [some (.ref (g.1 + 0)), some (.int w)] [] h (qi (fun h' r => h' = h ∧ r = (aRoom s n w))) := by
  have hR := hC.1
  have hP := hC.2.1
  have hn8 := hP.2.1
  have hN := hR.2.1
  obtain ⟨fp, hfp, hfp2⟩ := hR.2.2.2.1
  refine ex_iload_n (pc := 0) dX6_room_0 rfl ?_
  refine ex_iconst (pc := 1) (v := (nI 5)) dX6_room_1 (by decide) ?_
  refine ex_icmp_ne (pc := 2) (tgt := 16) dX6_room_2 (by decide) (fun c_2 => ?_) (fun c_2 => ?_)
  · skip
    refine ex_iload_n (pc := 16) dX6_room_16 rfl ?_
    refine ex_iconst (pc := 17) (v := (nI 5)) dX6_room_17 (by decide) ?_
    refine cx_SL2i (pc := 18) dX6_room_18 lk_X6_69 rfl (Nat.le_of_ble_eq_true rfl) (Nat.le_of_ble_eq_true rfl) (by omega) (c_ib _ _) (fun h_18 x_18 q_18 => ?_)
    obtain ⟨e_18, f_18⟩ := q_18
    rw [e_18, f_18]
    refine ex_if_eq (pc := 21) (tgt := 35) dX6_room_21 (by decide) (fun c_21 => ?_) (fun c_21 => ?_)
    · skip
      have b_21 := bF c_21
      refine ex_ldc (pc := 35) dX6_room_35 cn_X6_73 ?_
      refine ex_ret dX6_room_37 rfl ?_
      refine qi_mk ⟨rfl, ?_⟩
      simp only [aRoom, b_21, c_2, Bool.and_self, Bool.and_true, Bool.true_and, Bool.and_false, Bool.false_and, Bool.or_true, Bool.true_or, Bool.or_false, Bool.false_or, Bool.not_true, Bool.not_false, Bool.false_eq_true, ↓reduceIte]
    · skip
      have b_21 := bT c_21
      obtain ⟨w0, hw0, rfl⟩ := bw_ex b_21
      have i_w : ixI (nI w0) = w0 := iK (by omega)
      refine ex_aload_n (pc := 24) dX6_room_24 rfl ?_
      refine ex_get (pc := 25) dX6_room_25 fl_X6_10 hW rfl ?_
      refine ex_iload_n (pc := 28) dX6_room_28 rfl ?_
      refine cx_VL1i (pc := 29) dX6_room_29 lk_X6_216 hR.1 rfl (Nat.le_of_ble_eq_true rfl) (Nat.le_of_ble_eq_true rfl) (by omega) (c_R_standing hR (by omega) hw0) (fun h_29 x_29 q_29 => ?_)
      obtain ⟨e_29, f_29⟩ := q_29
      rw [e_29, f_29]
      refine ex_goto (pc := 32) (tgt := 37) dX6_room_32 (by decide) ?_
      refine ex_ret dX6_room_37 rfl ?_
      refine qi_mk ⟨rfl, ?_⟩
      simp only [aRoom, b_21, i_w, Bool.and_self, Bool.and_true, Bool.true_and, Bool.and_false, Bool.false_and, Bool.or_true, Bool.true_or, Bool.or_false, Bool.false_or, Bool.not_true, Bool.not_false, Bool.false_eq_true, ↓reduceIte]
  · skip
    refine ex_aload_n (pc := 5) dX6_room_5 rfl ?_
    refine ex_get (pc := 6) dX6_room_6 fl_X6_10 hW rfl ?_
    refine ex_get (pc := 9) dX6_room_9 fl_X6_149 hR.1 rfl ?_
    refine cx_SL1i (pc := 12) dX6_room_12 lk_X6_124 rfl (Nat.le_of_ble_eq_true rfl) (Nat.le_of_ble_eq_true rfl) (by omega) (c_lbc _) (fun h_12 x_12 q_12 => ?_)
    obtain ⟨e_12, f_12⟩ := q_12
    rw [e_12, f_12]
    refine ex_ret dX6_room_15 rfl ?_
    refine qi_mk ⟨rfl, ?_⟩
    subst c_2
    have k1 : bw (nI 5) 5 = false := by decide
    simp only [aRoom, k1, Bool.and_self, Bool.and_true, Bool.true_and, Bool.and_false, Bool.false_and, Bool.or_true, Bool.true_or, Bool.or_false, Bool.false_or, Bool.not_true, Bool.not_false, Bool.false_eq_true, ↓reduceIte]
set_option maxHeartbeats 4000000 in
set_option maxRecDepth 100000 in
theorem c_M_roomOf5 {g : Gl} {d ks : Nat} {h : AH} {z s : Nat → Int32} {n nt : Nat} (hR : MR g h z s n nt) (hWo : WOk s) (hd : 1 ≤ d) : Ex g mX7_roomOf d 0 ks 0 [some (.ref (g.1 + 75)), some (.int (nI 5))] [] h (qi (fun h' r => h' = h ∧ r = nI (cntL (setL (wll s) 48)))) := by
  refine ex_iload_n (pc := 0) dX7_roomOf_0 rfl ?_
  refine ex_iconst (pc := 1) (v := (nI 3)) dX7_roomOf_1 (by decide) ?_
  refine bx_icmp_ge_t (pc := 2) (tgt := 16) dX7_roomOf_2 (by decide) (by decide) ?_
  refine ex_iload_n (pc := 16) dX7_roomOf_16 rfl ?_
  refine ex_iconst (pc := 17) (v := (nI 3)) dX7_roomOf_17 (by decide) ?_
  refine bx_icmp_ne_t (pc := 18) (tgt := 28) dX7_roomOf_18 (by decide) (by decide) ?_
  refine ex_iload_n (pc := 28) dX7_roomOf_28 rfl ?_
  refine ex_iconst (pc := 29) (v := (nI 4)) dX7_roomOf_29 (by decide) ?_
  refine bx_icmp_ne_t (pc := 30) (tgt := 40) dX7_roomOf_30 (by decide) (by decide) ?_
  refine ex_aload_n (pc := 40) dX7_roomOf_40 rfl ?_
  refine cx_VL0i (pc := 41) dX7_roomOf_41 lk_X7_247 hR.1.1 rfl (Nat.le_of_ble_eq_true rfl) (Nat.le_of_ble_eq_true rfl) (by omega) (c_M_walls hR.1) (fun h_41 x_41 q_41 => ?_)
  obtain ⟨e_41, f_41⟩ := q_41
  rw [e_41, f_41, wl_cnt hWo]
  refine ex_ret dX7_roomOf_44 rfl ?_
  exact qi_mk ⟨rfl, rfl⟩
set_option maxHeartbeats 4000000 in
set_option maxRecDepth 100000 in
theorem c_M_room {g : Gl} {d ks : Nat} {h : AH} {z s : Nat → Int32} {n nt : Nat} (hR : MR g h z s n nt) (hWo : WOk s) (hd : 4 ≤ d) (w : Int32) : Ex g mX7_room d 0 ks 0 [some (.ref (g.1 + 75)), some (.int w)] [] h (qi (fun h' r => h' = h ∧ r = (aRoom s n w))) := by
  have hM := hR.1
  have hP := hR.2.1
  have hn8 := hP.2.1
  have hN := hP.1
  refine ex_iload_n (pc := 0) dX7_room_0 rfl ?_
  refine ex_i2l (pc := 1) dX7_room_1 ?_
  refine ex_lconst (pc := 2) (v := 0) dX7_room_2 (by decide) ?_
  refine ex_ldc2_w (pc := 3) dX7_room_3 cn_X7_154 ?_
  refine cx_SL3i (pc := 6) dX7_room_6 lk_X7_69 rfl (Nat.le_of_ble_eq_true rfl) (Nat.le_of_ble_eq_true rfl) (by omega) (c_M_in _ (m := 6) (by decide)) (fun h_6 x_6 q_6 => ?_)
  obtain ⟨e_6, f_6⟩ := q_6
  rw [e_6, f_6]
  refine ex_if_eq (pc := 9) (tgt := 20) dX7_room_9 (by decide) (fun c_9 => ?_) (fun c_9 => ?_)
  · skip
    have b_9 := bF c_9
    refine ex_ldc (pc := 20) dX7_room_20 cn_X7_161 ?_
    refine ex_ret dX7_room_22 rfl ?_
    refine qi_mk ⟨rfl, ?_⟩
    have k1 : bw w 5 = false := decide_eq_false (fun q => by
      obtain ⟨j, hj, rfl⟩ := bw_ex (n := 5) (decide_eq_true q)
      rw [bw_t (show j < 6 by omega)] at b_9
      cases b_9)
    simp only [aRoom, k1, bw_ne b_9 (show 5 < 6 by omega), Bool.and_self, Bool.and_true, Bool.true_and, Bool.and_false, Bool.false_and, Bool.or_true, Bool.true_or, Bool.or_false, Bool.false_or, Bool.not_true, Bool.not_false, Bool.false_eq_true, ↓reduceIte]
  · skip
    have b_9 := bT c_9
    refine ex_aload_n (pc := 12) dX7_room_12 rfl ?_
    obtain ⟨w0, hw0, rfl⟩ := bw_ex b_9
    have i_w : ixI (nI w0) = w0 := iK (by omega)
    by_cases h5 : w0 < 5
    · have k1 : bw (nI w0) 5 = true := bw_t h5
      refine ex_iload_n (pc := 13) dX7_room_13 rfl ?_
      refine cx_VL1i (pc := 14) dX7_room_14 lk_X7_250 hM.1 rfl (Nat.le_of_ble_eq_true rfl) (Nat.le_of_ble_eq_true rfl) (by omega) (c_M_roomOf hR (by omega) h5) (fun h_14 x_14 q_14 => ?_)
      obtain ⟨e_14, f_14⟩ := q_14
      rw [e_14, f_14]
      refine ex_goto (pc := 17) (tgt := 22) dX7_room_17 (by decide) ?_
      refine ex_ret dX7_room_22 rfl ?_
      refine qi_mk ⟨rfl, ?_⟩
      simp only [aRoom, k1, i_w, Bool.and_self, Bool.and_true, Bool.true_and, Bool.and_false, Bool.false_and, Bool.or_true, Bool.true_or, Bool.or_false, Bool.false_or, Bool.not_true, Bool.not_false, Bool.false_eq_true, ↓reduceIte]
    · obtain rfl : w0 = 5 := by omega
      have k1 : bw (nI 5) 5 = false := by decide
      refine ex_iload_n (pc := 13) dX7_room_13 rfl ?_
      refine cx_VL1i (pc := 14) dX7_room_14 lk_X7_250 hM.1 rfl (Nat.le_of_ble_eq_true rfl) (Nat.le_of_ble_eq_true rfl) (by omega) (c_M_roomOf5 hR hWo (by omega)) (fun h_14 x_14 q_14 => ?_)
      obtain ⟨e_14, f_14⟩ := q_14
      rw [e_14, f_14]
      refine ex_goto (pc := 17) (tgt := 22) dX7_room_17 (by decide) ?_
      refine ex_ret dX7_room_22 rfl ?_
      refine qi_mk ⟨rfl, ?_⟩
      simp only [aRoom, k1, Bool.and_self, Bool.and_true, Bool.true_and, Bool.and_false, Bool.false_and, Bool.or_true, Bool.true_or, Bool.or_false, Bool.false_or, Bool.not_true, Bool.not_false, Bool.false_eq_true, ↓reduceIte]

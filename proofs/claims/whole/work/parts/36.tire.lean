/-! what an hour keeps; tired posts, the post that turns -/
/-- posts in order, and the thief in a cell -/
def HOk (s : Nat → Int32) (n : Nat) : Prop := POk s n ∧ ∃ th, th < 48 ∧ s 7 = nI th
theorem HOk.low {s : Nat → Int32} {n : Nat} (h : HOk s n) {k : Nat} {v : Int32} (h2 : 2 ≤ k) (hk : k < 10) (h7 : k ≠ 7) : HOk (upd s k v) n := by
  obtain ⟨th, h1, e⟩ := h.2
  exact ⟨h.1.low h2 hk, th, h1, (upd_ne (Ne.symm h7)).trans e⟩
theorem HOk.thi {s : Nat → Int32} {n : Nat} (h : HOk s n) {c : Nat} (hc : c < 48) : HOk (upd s 7 (nI c)) n := ⟨h.1.low (by omega) (by omega), c, hc, upd_eq⟩
theorem HOk.trd {s : Nat → Int32} {n : Nat} (h : HOk s n) {i : Nat} {v : Int32} : HOk (upd s (10 + 4 * i + 3) v) n := by
  obtain ⟨th, h1, e⟩ := h.2
  exact ⟨h.1.trd, th, h1, (upd_ne (by omega)).trans e⟩
theorem HOk.sid {s : Nat → Int32} {n : Nat} (h : HOk s n) {i σ : Nat} (hσ : σ < 4) : HOk (upd s (10 + 4 * i + 2) (nI σ)) n := by
  obtain ⟨th, h1, e⟩ := h.2
  exact ⟨h.1.sid hσ, th, h1, (upd_ne (by omega)).trans e⟩
theorem mv_ok {s : Nat → Int32} {n : Nat} (h : HOk s n) : HOk (mvS s) n ∧ lowD s (mvS s) := by
  obtain ⟨th, h1, e⟩ := h.2
  have hd : HOk (drS s) n := h.low (by omega) (by omega) (by omega)
  have hl : lowD s (drS s) := lowD.up (by omega) (by omega)
  cases hx : nxt (dN (s 9) % 4) (thf s) with
  | none => rw [mv_same hx]; exact ⟨hd, hl⟩
  | some c =>
    have hc : c < 48 := by
      rw [thf_eq e h1] at hx
      exact (nxt_s (Nat.mod_lt _ (by omega)) h1 hx).2.2.2
    by_cases hw : wll s c = true
    · rw [mv_wall hx hw]; exact ⟨hd, hl⟩
    · rw [mv_go hx hw]; exact ⟨hd.thi hc, hl.tr (lowD.up (by omega) (by omega))⟩
theorem fnd_ok {s : Nat → Int32} {nt n : Nat} (h : HOk s n) : HOk (fndS s nt n) n ∧ lowD s (fndS s nt n) := by
  have hd : HOk (drS s) n := h.low (by omega) (by omega) (by omega)
  have hl : lowD s (drS s) := lowD.up (by omega) (by omega)
  unfold fndS
  split
  · exact ⟨hd.low (by omega) (by omega) (by omega), hl.tr (lowD.up (by omega) (by omega))⟩
  · exact ⟨hd.low (by omega) (by omega) (by omega), hl.tr (lowD.up (by omega) (by omega))⟩
theorem tir_ok {s : Nat → Int32} {n : Nat} (h : HOk s n) : ∀ k, k ≤ 8 → HOk (tirS s k) n ∧ lowD s (tirS s k) := by
  intro k
  induction k with
  | zero => intro _; exact ⟨h, lowD.rf⟩
  | succ k ih =>
    intro hk
    obtain ⟨i1, i2⟩ := ih (by omega)
    rw [tirS]
    exact ⟨i1.trd, i2.tr (lowD.up (by omega) (by omega))⟩
theorem rem4 {s : Nat → Int32} {n : Nat} (h : POk s n) {k : Nat} (hk : k < n) : ∃ σ, σ < 4 ∧ rm32 (s (10 + 4 * k + 2) + nI 1) (nI 4) = nI σ := by
  obtain ⟨-, -, σ, hσ, e⟩ := h.2.2 k hk
  rw [e, nI_add]
  exact ⟨(σ + 1) % 4, Nat.mod_lt _ (by omega), nI_rem (by omega) (by omega) (by omega)⟩
theorem trn_ok {s : Nat → Int32} {n : Nat} (h : HOk s n) : HOk (trnS s n) n ∧ lowD s (trnS s n) := by
  have hd : HOk (drS s) n := h.low (by omega) (by omega) (by omega)
  have hl : lowD s (drS s) := lowD.up (by omega) (by omega)
  have hn8 := h.1.2.1
  unfold trnS
  split
  · rename_i hc
    have hk : dN (drS s 9) % n < n := Nat.mod_lt _ hc.2
    obtain ⟨σ, hσ, e⟩ := rem4 h.1 hk
    rw [e]
    exact ⟨(hd.low (by omega) (by omega) (by omega)).sid hσ, (hl.tr (lowD.up (by omega) (by omega))).tr (lowD.up (by omega) (by omega))⟩
  · exact ⟨hd, hl⟩
theorem hr_ok {s : Nat → Int32} {nt n : Nat} (h : HOk s n) : HOk (hrS s nt n) n ∧ lowD s (hrS s nt n) := by
  have hn8 := h.1.2.1
  obtain ⟨a1, b1⟩ := mv_ok h
  obtain ⟨a2, b2⟩ := fnd_ok (nt := nt) a1
  obtain ⟨a3, b3⟩ := tir_ok a2 n hn8
  obtain ⟨a4, b4⟩ := trn_ok a3
  unfold hrS
  exact ⟨a4.low (by omega) (by omega) (by omega), (((b1.tr b2).tr b3).tr b4).tr (lowD.up (by omega) (by omega))⟩
theorem hrs_ok {s : Nat → Int32} {nt n : Nat} (h : HOk s n) : ∀ k, HOk (hrsS s nt n k) n ∧ lowD s (hrsS s nt n k) := by
  intro k
  induction k with
  | zero => exact ⟨h, lowD.rf⟩
  | succ k ih =>
    obtain ⟨a, b⟩ := hr_ok (nt := nt) ih.1
    exact ⟨a, ih.2.tr b⟩
theorem ps_3 {s : Nat → Int32} {i : Nat} {v : Int32} : ob 0 ([Value.int (s (10 + 4 * i + 0)), .int (s (10 + 4 * i + 1)), .int (s (10 + 4 * i + 2)), .int (s (10 + 4 * i + 3))].set 3 (.int v)) = pS (upd s (10 + 4 * i + 3) v) i := by
  simp [pS, po, upd]
theorem ps_2 {s : Nat → Int32} {i : Nat} {v : Int32} : ob 0 ([Value.int (s (10 + 4 * i + 0)), .int (s (10 + 4 * i + 1)), .int (s (10 + 4 * i + 2)), .int (s (10 + 4 * i + 3))].set 2 (.int v)) = pS (upd s (10 + 4 * i + 2) v) i := by
  simp [pS, po, upd]
set_option maxHeartbeats 4000000 in
set_option maxRecDepth 100000 in
theorem c_R_tirePosts_l {g : Gl} {d ks : Nat} {h : AH} {b n : Nat} {s : Nat → Int32} (hb : b ≤ 25) (hd : 2 ≤ d) : ∀ (m k : Nat) (o2 : Option Value) (h1 : AH), RoomB g h1 b (tirS s k) n → FrX (rmX b) g h h1 → k + m = n → Ex g mX2_tirePosts d 0 ks 2 [some (.ref (g.1 + b)), some (.int (nI k)), o2] [] h1 (qv (fun h' => RoomB g h' b (tirS s n) n ∧ FrX (rmX b) g h h')) := by
  intro m
  induction m with
  | zero =>
    intro k o2 h1 hR1 hF hk
    have hN := hR1.2.1
    refine ex_iload_n (pc := 2) dX2_tirePosts_2 rfl ?_
    refine ex_aload_n (pc := 3) dX2_tirePosts_3 rfl ?_
    refine ex_get (pc := 4) dX2_tirePosts_4 fl_X2_17 hR1.1 rfl ?_
    refine bx_icmp_ge_t (pc := 7) (tgt := 54) dX2_tirePosts_7 (by decide) (by rw [hN, show k = n by omega]; exact Int32.le_refl _) ?_
    refine ex_vret dX2_tirePosts_54 rfl ?_
    obtain rfl : k = n := by omega
    exact qv_mk ⟨hR1, hF⟩
  | succ m ih =>
    intro k o2 h1 hR1 hF hk
    have hN := hR1.2.1
    have hn8 := hR1.2.2.1
    obtain ⟨fp, hfp, hfp2⟩ := hR1.2.2.2.1
    have fin : Ex g mX2_tirePosts d 0 ks 2 [some (.ref (g.1 + b)), some (.int (nI (k + 1))), some (.ref (g.1 + (b + 4 + k)))] [] (h1.set (b + 4 + k) (pS (upd (tirS s k) (10 + 4 * k + 3) (hld (tirS s k (10 + 4 * k + 3) + (if awS (tirS s k) k then nI 5 else -20)) (nI 99))) k)) (qv (fun h' => RoomB g h' b (tirS s n) n ∧ FrX (rmX b) g h h')) :=
      ih (k + 1) _ _ (hR1.pst (i := k) (f := 3) _ (by omega) (by omega)) (hF.tr (FrX.st (Or.inr ⟨by omega, by omega⟩) (nscr (by omega)))) (by omega)
    clear ih
    refine ex_iload_n (pc := 2) dX2_tirePosts_2 rfl ?_
    refine ex_aload_n (pc := 3) dX2_tirePosts_3 rfl ?_
    refine ex_get (pc := 4) dX2_tirePosts_4 fl_X2_17 hR1.1 rfl ?_
    refine bx_icmp_ge_f (pc := 7) (tgt := 54) dX2_tirePosts_7 (by decide) (by rw [hN]; exact nI_ge (by omega) (by omega)) ?_
    refine ex_aload_n (pc := 10) dX2_tirePosts_10 rfl ?_
    refine ex_get (pc := 11) dX2_tirePosts_11 fl_X2_11 hR1.1 rfl ?_
    refine ex_iload_n (pc := 14) dX2_tirePosts_14 rfl ?_
    refine ex_aldn (k := k) (v := .ref (g.1 + (b + 4 + k))) (pc := 15) dX2_tirePosts_15 rfl hfp rfl (by omega) (by decide) (congrArg va_rf (hfp2 k (by omega))) ?_
    refine sx_astore_n (pc := 16) dX2_tirePosts_16 rfl (by decide) ?_
    show Ex _ _ _ _ _ _ [_, _, _] _ _ _
    refine ex_aload_n (pc := 17) dX2_tirePosts_17 rfl ?_
    refine ex_aload_n (pc := 18) dX2_tirePosts_18 rfl ?_
    refine ex_get (pc := 19) dX2_tirePosts_19 fl_X2_95 (hR1.2.2.2.2.1 k (by omega)) rfl ?_
    refine ex_aload_n (pc := 22) dX2_tirePosts_22 rfl ?_
    refine ex_aload_n (pc := 23) dX2_tirePosts_23 rfl ?_
    refine ex_get (pc := 24) dX2_tirePosts_24 fl_X2_40 hR1.1 rfl ?_
    refine cx_VL1i (pc := 27) dX2_tirePosts_27 lk_X2_147 (hR1.2.2.2.2.1 k (by omega)) rfl (Nat.le_of_ble_eq_true rfl) (Nat.le_of_ble_eq_true rfl) (by omega) (c_P_isAwake (hR1.2.2.2.2.1 k (by omega)) _) (fun h_27 x_27 q_27 => ?_)
    obtain ⟨e_27, rfl⟩ := q_27
    rw [e_27]
    refine ex_if_eq (pc := 30) (tgt := 37) dX2_tirePosts_30 (by decide) (fun c_30 => ?_) (fun c_30 => ?_)
    · skip
      refine ex_bipush (pc := 37) (v := (-20)) dX2_tirePosts_37 (by decide) ?_
      refine ex_iadd (pc := 39) dX2_tirePosts_39 ?_
      refine ex_bipush (pc := 40) (v := (nI 99)) dX2_tirePosts_40 (by decide) ?_
      refine cx_SN2i (pc := 42) dX2_tirePosts_42 lk_X2_105 rfl (Nat.le_of_ble_eq_true rfl) (Nat.le_of_ble_eq_true rfl) (by omega) (c_held (by omega) _ _) (fun h_42 x_42 q_42 => ?_)
      obtain ⟨e_42, f_42⟩ := q_42
      rw [e_42, f_42]
      refine ex_put (pc := 45) dX2_tirePosts_45 fp_X2_95 (hR1.2.2.2.2.1 k (by omega)) (Nat.le_of_ble_eq_true rfl) rfl rfl ?_
      rw [ps_3]
      first | refine sx_inc (pc := 48) dX2_tirePosts_48 rfl rfl (by decide) ?_ | refine sx_iinc (pc := 48) dX2_tirePosts_48 rfl rfl (by decide) ?_
      show Ex _ _ _ _ _ _ [_, _, _] _ _ _
      refine ex_goto (pc := 51) (tgt := 2) dX2_tirePosts_51 (by decide) ?_
      first
      | (have ev : hld (tirS s k (10 + 4 * k + 3) + nI 5) (nI 99) = hld (tirS s k (10 + 4 * k + 3) + (if awS (tirS s k) k then nI 5 else -20)) (nI 99) := by rw [if_pos (show awS (tirS s k) k = true from Decidable.not_not.mp (fun q => c_30 (bI_f q)))]
         rw [ev]; exact fin)
      | (have ev : hld (tirS s k (10 + 4 * k + 3) + (-20)) (nI 99) = hld (tirS s k (10 + 4 * k + 3) + (if awS (tirS s k) k then nI 5 else -20)) (nI 99) := by rw [if_neg (show ¬ awS (tirS s k) k = true from bI_0.mp c_30)]
         rw [ev]; exact fin)
    · skip
      refine ex_iconst (pc := 33) (v := (nI 5)) dX2_tirePosts_33 (by decide) ?_
      refine ex_goto (pc := 34) (tgt := 39) dX2_tirePosts_34 (by decide) ?_
      refine ex_iadd (pc := 39) dX2_tirePosts_39 ?_
      refine ex_bipush (pc := 40) (v := (nI 99)) dX2_tirePosts_40 (by decide) ?_
      refine cx_SN2i (pc := 42) dX2_tirePosts_42 lk_X2_105 rfl (Nat.le_of_ble_eq_true rfl) (Nat.le_of_ble_eq_true rfl) (by omega) (c_held (by omega) _ _) (fun h_42 x_42 q_42 => ?_)
      obtain ⟨e_42, f_42⟩ := q_42
      rw [e_42, f_42]
      refine ex_put (pc := 45) dX2_tirePosts_45 fp_X2_95 (hR1.2.2.2.2.1 k (by omega)) (Nat.le_of_ble_eq_true rfl) rfl rfl ?_
      rw [ps_3]
      first | refine sx_inc (pc := 48) dX2_tirePosts_48 rfl rfl (by decide) ?_ | refine sx_iinc (pc := 48) dX2_tirePosts_48 rfl rfl (by decide) ?_
      show Ex _ _ _ _ _ _ [_, _, _] _ _ _
      refine ex_goto (pc := 51) (tgt := 2) dX2_tirePosts_51 (by decide) ?_
      first
      | (have ev : hld (tirS s k (10 + 4 * k + 3) + nI 5) (nI 99) = hld (tirS s k (10 + 4 * k + 3) + (if awS (tirS s k) k then nI 5 else -20)) (nI 99) := by rw [if_pos (show awS (tirS s k) k = true from Decidable.not_not.mp (fun q => c_30 (bI_f q)))]
         rw [ev]; exact fin)
      | (have ev : hld (tirS s k (10 + 4 * k + 3) + (-20)) (nI 99) = hld (tirS s k (10 + 4 * k + 3) + (if awS (tirS s k) k then nI 5 else -20)) (nI 99) := by rw [if_neg (show ¬ awS (tirS s k) k = true from bI_0.mp c_30)]
         rw [ev]; exact fin)
set_option maxHeartbeats 4000000 in
set_option maxRecDepth 100000 in
theorem c_R_tirePosts {g : Gl} {d ks : Nat} {h : AH} {b n : Nat} {s : Nat → Int32} (hR : RoomB g h b s n) (hb : b ≤ 25) (hd : 2 ≤ d) : Ex g mX2_tirePosts d 0 ks 0 [some (.ref (g.1 + b)), none, none] [] h (qv (fun h' => RoomB g h' b (tirS s n) n ∧ FrX (rmX b) g h h')) := by
  refine ex_iconst (pc := 0) (v := (nI 0)) dX2_tirePosts_0 (by decide) ?_
  refine sx_istore_n (pc := 1) dX2_tirePosts_1 rfl (by decide) ?_
  show Ex _ _ _ _ _ _ [_, _, _] _ _ _
  exact c_R_tirePosts_l hb hd n 0 none h hR FrX.rf (by omega)

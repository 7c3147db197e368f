/-! the reference deals -/
theorem nf_snoc {f : Nat → Bool} : ∀ (m c : Nat), c < 48 → nfF f (m + 1) c = match nfF f m c with
    | some j => some j
    | none => if f ((c + m) % 48) = true then some ((c + m) % 48) else none := by
  intro m
  induction m with
  | zero =>
    intro c hc
    simp only [nfF, Nat.add_zero]
    rw [Nat.mod_eq_of_lt hc]
  | succ m ih =>
    intro c hc
    rw [nfF, ih _ (Nat.mod_lt _ (by decide)), nfF]
    by_cases e : f c = true
    · simp [e]
    · have e2 : ((c + 1) % 48 + m) % 48 = (c + (m + 1)) % 48 := by omega
      simp only [if_neg e, e2]
theorem nf_none {f : Nat → Bool} {m c : Nat} (h : nfF f (m + 1) c = none) : ¬ f c = true := by
  intro e; rw [nfF, if_pos e] at h; cases h
theorem nf49 {f : Nat → Bool} {c : Nat} (hc : c < 48) : nfF f 49 c = nfF f 48 c := by
  rw [nf_snoc _ _ hc]
  cases e : nfF f 48 c with
  | some j => rfl
  | none =>
    have := nf_none e
    rw [show (c + 48) % 48 = c by omega]
    simp [this]

theorem who_congr {f f' : Nat → Int32} {c : Int32} : ∀ (m k : Nat), (∀ i, f i = f' i) → whoF f c m k = whoF f' c m k := by
  intro m k h
  rw [show f = f' from funext h]
theorem fre_9 {s : Nat → Int32} {v : Int32} {n : Nat} : fre (upd s 9 v) n = fre s n := by
  funext c
  unfold fre
  rw [wll_upd (by omega)]
  congr 2
  unfold ownS
  refine who_congr _ _ (fun i => ?_)
  exact upd_ne (by omega)
theorem dpC_m {s : Nat → Int32} {n : Nat} : nfF (fre (drS (drS s)) n) 49 (dN (drS s 9) % 48) = dpC s n := by
  rw [nf49 (Nat.mod_lt _ (by decide)), dpC, dr4, fre_9, fre_9, fre_9, fre_9, fre_9, fre_9]
theorem dr4_0 {s : Nat → Int32} : dr4 s 0 = s 0 := by
  rw [dr4, drS, upd_ne (by omega), drS, upd_ne (by omega), drS, upd_ne (by omega), drS, upd_ne (by omega)]
theorem c_M_drawn2 {g : Gl} {d ks : Nat} {h : AH} {z s : Nat → Int32} (hM : Ms g h z s) : Ex g mX7_drawn d 0 ks 0 [some (.ref (g.1 + 75))] [] h (qi (fun h' r => (Ms g h' z (drS s) ∧ FrX mX g h h') ∧ r = nI (dN (s 9)))) := by
  refine (c_M_drawn hM).mono (fun h' r a => ?_)
  obtain ⟨x, e, a1, a2⟩ := a
  refine ⟨x, e, ⟨?_, ?_⟩, a2.trans (drv_eq _)⟩
  · rw [a1]; exact hM.st _
  · rw [a1]; exact FrX.ms
theorem c_M_comes2 {g : Gl} {d ks : Nat} {h : AH} {z s : Nat → Int32} (hM : Ms g h z s) {n : Nat} (hn : s 0 = nI n) (hd : 1 ≤ d) (hn7 : n < 8) (kd ce si ti : Int32) : Ex g mX7_comes d 0 ks 0 [some (.ref (g.1 + 75)), some (.int kd), some (.int ce), some (.int si), some (.int ti), none] [] h (qv (fun h' => Ms g h' z (cmS s n kd ce si ti) ∧ FrX mX g h h')) := by
  refine (c_M_comes hM hn (by omega) hd hn7 kd ce si ti).mono (fun h' r a => ⟨a.1, ?_⟩)
  rw [a.2]; exact ⟨hM.st _, FrX.ms⟩
theorem cm_0 {s : Nat → Int32} {n : Nat} {kd ce si ti : Int32} (h : s 0 = nI n) : cmS s n kd ce si ti 0 = nI (n + 1) := by
  rw [cmS_lo (by omega), upd_eq, nI_add]
set_option maxHeartbeats 4000000 in
set_option maxRecDepth 100000 in
theorem c_M_deal_l {g : Gl} {d ks : Nat} {h : AH} {z : Nat → Int32} {K : Nat} (hK : K ≤ 8) (hd : 4 ≤ d) : ∀ (m k n : Nat) (s : Nat → Int32) (l4 l5 l6 l7 : Option Value) {h1 : AH}, Ms g h1 z s → FrX mX g h h1 → s 0 = nI n → n ≤ 8 → k + m = K → Ex g mX7_deal d 0 ks 19 [some (.ref (g.1 + 75)), some (.int (nI K)), some (.int (nI k)), some (.int (nI 1)), l4, l5, l6, l7] [] h1 (qi (fun h' r => (Ms g h' z (dlS m s n).1 ∧ FrX mX g h h') ∧ r = nI (k + (dlS m s n).2))) := by
  intro m
  induction m with
  | zero =>
    intro k n s l4 l5 l6 l7 h1 hM hF hn hn8 hk
    refine ex_iload_n (pc := 19) dX7_deal_19 rfl ?_
    refine bx_if_eq_f (pc := 20) (tgt := 111) dX7_deal_20 (by decide) (by decide) ?_
    refine ex_iload_n (pc := 23) dX7_deal_23 rfl ?_
    refine ex_iload_n (pc := 24) dX7_deal_24 rfl ?_
    refine bx_icmp_ge_t (pc := 25) (tgt := 111) dX7_deal_25 (by decide) (by rw [show k = K by omega]; exact Int32.le_refl _) ?_
    refine ex_iload_n (pc := 111) dX7_deal_111 rfl ?_
    refine ex_ret dX7_deal_112 rfl ?_
    exact qi_mk ⟨⟨hM, hF⟩, rfl⟩
  | succ m ih =>
    intro k n s l4 l5 l6 l7 h1 hM hF hn hn8 hk
    by_cases h8 : n < 8
    · cases hc : dpC s n with
      | none =>
        refine ex_iload_n (pc := 19) dX7_deal_19 rfl ?_
        refine bx_if_eq_f (pc := 20) (tgt := 111) dX7_deal_20 (by decide) (by decide) ?_
        refine ex_iload_n (pc := 23) dX7_deal_23 rfl ?_
        refine ex_iload_n (pc := 24) dX7_deal_24 rfl ?_
        refine bx_icmp_ge_f (pc := 25) (tgt := 111) dX7_deal_25 (by decide) (nI_ge (by omega) (by omega)) ?_
        refine ex_aload_n (pc := 28) dX7_deal_28 rfl ?_
        refine ex_get (pc := 29) dX7_deal_29 fl_X7_7 hM.1 rfl ?_
        refine ex_iconst (pc := 32) (v := (nI 0)) dX7_deal_32 (by decide) ?_
        refine ex_ildn (k := 0) (pc := 33) dX7_deal_33 hM.2 rfl (by decide) (by decide) ?_
        refine ex_bipush (pc := 34) (v := (nI 8)) dX7_deal_34 (by decide) ?_
        refine bx_icmp_ge_f (pc := 36) (tgt := 111) dX7_deal_36 (by decide) (by rw [hn]; exact nI_ge (by omega) (by omega)) ?_
        refine ex_aload_n (pc := 39) dX7_deal_39 rfl ?_
        refine cx_VL0i (pc := 40) dX7_deal_40 lk_X7_202 hM.1 rfl (Nat.le_of_ble_eq_true rfl) (Nat.le_of_ble_eq_true rfl) (by omega) (c_M_drawn2 hM) (fun h_40 x_40 q_40 => ?_)
        obtain ⟨⟨r1, u1⟩, e_40⟩ := q_40
        rw [e_40]
        refine ex_bipush (pc := 43) (v := (nI 6)) dX7_deal_43 (by decide) ?_
        refine ex_irem (pc := 45) dX7_deal_45 (by decide) ?_
        rw [nI_rem (Nat.lt_trans (dN_lt _) (by decide)) (by decide) (by decide)]
        refine sx_istore (pc := 46) dX7_deal_46 rfl (by decide) ?_
        show Ex _ _ _ _ _ _ [_, _, _, _, _, _, _, _] _ _ _
        refine ex_aload_n (pc := 48) dX7_deal_48 rfl ?_
        refine ex_aload_n (pc := 49) dX7_deal_49 rfl ?_
        refine cx_VL0i (pc := 50) dX7_deal_50 lk_X7_202 r1.1 rfl (Nat.le_of_ble_eq_true rfl) (Nat.le_of_ble_eq_true rfl) (by omega) (c_M_drawn2 r1) (fun h_50 x_50 q_50 => ?_)
        obtain ⟨⟨r2, u2⟩, e_50⟩ := q_50
        rw [e_50]
        refine ex_bipush (pc := 53) (v := (nI 48)) dX7_deal_53 (by decide) ?_
        refine ex_irem (pc := 55) dX7_deal_55 (by decide) ?_
        rw [nI_rem (Nat.lt_trans (dN_lt _) (by decide)) (by decide) (by decide)]
        have hn2 : drS (drS s) 0 = nI n := (upd_ne (by omega)).trans ((upd_ne (by omega)).trans hn)
        refine cx_VL1i (pc := 56) dX7_deal_56 lk_X7_205 r2.1 rfl (Nat.le_of_ble_eq_true rfl) (Nat.le_of_ble_eq_true rfl) (by omega) (c_M_nextFree r2 hn2 hn8 (by omega) (Nat.mod_lt _ (by decide))) (fun h_56 x_56 q_56 => ?_)
        obtain ⟨e_56, f_56⟩ := q_56
        rw [e_56, f_56, dpC_m, hc]
        refine sx_istore (pc := 59) dX7_deal_59 rfl (by decide) ?_
        show Ex _ _ _ _ _ _ [_, _, _, _, _, _, _, _] _ _ _
        refine ex_aload_n (pc := 61) dX7_deal_61 rfl ?_
        refine cx_VL0i (pc := 62) dX7_deal_62 lk_X7_202 r2.1 rfl (Nat.le_of_ble_eq_true rfl) (Nat.le_of_ble_eq_true rfl) (by omega) (c_M_drawn2 r2) (fun h_62 x_62 q_62 => ?_)
        obtain ⟨⟨r3, u3⟩, e_62⟩ := q_62
        rw [e_62]
        refine ex_iconst (pc := 65) (v := (nI 4)) dX7_deal_65 (by decide) ?_
        refine ex_irem (pc := 66) dX7_deal_66 (by decide) ?_
        rw [nI_rem (Nat.lt_trans (dN_lt _) (by decide)) (by decide) (by decide)]
        refine sx_istore (pc := 67) dX7_deal_67 rfl (by decide) ?_
        show Ex _ _ _ _ _ _ [_, _, _, _, _, _, _, _] _ _ _
        refine ex_aload_n (pc := 69) dX7_deal_69 rfl ?_
        refine cx_VL0i (pc := 70) dX7_deal_70 lk_X7_202 r3.1 rfl (Nat.le_of_ble_eq_true rfl) (Nat.le_of_ble_eq_true rfl) (by omega) (c_M_drawn2 r3) (fun h_70 x_70 q_70 => ?_)
        obtain ⟨⟨r4, u4⟩, e_70⟩ := q_70
        rw [e_70]
        refine ex_bipush (pc := 73) (v := (nI 60)) dX7_deal_73 (by decide) ?_
        refine ex_irem (pc := 75) dX7_deal_75 (by decide) ?_
        rw [nI_rem (Nat.lt_trans (dN_lt _) (by decide)) (by decide) (by decide)]
        refine sx_istore (pc := 76) dX7_deal_76 rfl (by decide) ?_
        show Ex _ _ _ _ _ _ [_, _, _, _, _, _, _, _] _ _ _
        refine ex_iload (pc := 78) dX7_deal_78 rfl ?_
        refine bx_if_lt_t (pc := 80) (tgt := 87) dX7_deal_80 (by decide) (by decide) ?_
        refine ex_iconst (pc := 87) (v := (nI 0)) dX7_deal_87 (by decide) ?_
        refine sx_istore_n (pc := 88) dX7_deal_88 rfl (by decide) ?_
        show Ex _ _ _ _ _ _ [_, _, _, _, _, _, _, _] _ _ _
        refine ex_iload_n (pc := 89) dX7_deal_89 rfl ?_
        refine bx_if_eq_t (pc := 90) (tgt := 108) dX7_deal_90 (by decide) (rfl) ?_
        refine ex_goto (pc := 108) (tgt := 19) dX7_deal_108 (by decide) ?_
        refine ex_iload_n (pc := 19) dX7_deal_19 rfl ?_
        refine bx_if_eq_t (pc := 20) (tgt := 111) dX7_deal_20 (by decide) (rfl) ?_
        refine ex_iload_n (pc := 111) dX7_deal_111 rfl ?_
        refine ex_ret dX7_deal_112 rfl ?_
        have e : dlS (m + 1) s n = (dr4 s, 0) := by rw [dlS, if_pos h8, hc]
        rw [e]
        exact qi_mk ⟨⟨r4, (((hF.tr u1).tr u2).tr u3).tr u4⟩, rfl⟩
      | some j =>
        refine ex_iload_n (pc := 19) dX7_deal_19 rfl ?_
        refine bx_if_eq_f (pc := 20) (tgt := 111) dX7_deal_20 (by decide) (by decide) ?_
        refine ex_iload_n (pc := 23) dX7_deal_23 rfl ?_
        refine ex_iload_n (pc := 24) dX7_deal_24 rfl ?_
        refine bx_icmp_ge_f (pc := 25) (tgt := 111) dX7_deal_25 (by decide) (nI_ge (by omega) (by omega)) ?_
        refine ex_aload_n (pc := 28) dX7_deal_28 rfl ?_
        refine ex_get (pc := 29) dX7_deal_29 fl_X7_7 hM.1 rfl ?_
        refine ex_iconst (pc := 32) (v := (nI 0)) dX7_deal_32 (by decide) ?_
        refine ex_ildn (k := 0) (pc := 33) dX7_deal_33 hM.2 rfl (by decide) (by decide) ?_
        refine ex_bipush (pc := 34) (v := (nI 8)) dX7_deal_34 (by decide) ?_
        refine bx_icmp_ge_f (pc := 36) (tgt := 111) dX7_deal_36 (by decide) (by rw [hn]; exact nI_ge (by omega) (by omega)) ?_
        refine ex_aload_n (pc := 39) dX7_deal_39 rfl ?_
        refine cx_VL0i (pc := 40) dX7_deal_40 lk_X7_202 hM.1 rfl (Nat.le_of_ble_eq_true rfl) (Nat.le_of_ble_eq_true rfl) (by omega) (c_M_drawn2 hM) (fun h_40 x_40 q_40 => ?_)
        obtain ⟨⟨r1, u1⟩, e_40⟩ := q_40
        rw [e_40]
        refine ex_bipush (pc := 43) (v := (nI 6)) dX7_deal_43 (by decide) ?_
        refine ex_irem (pc := 45) dX7_deal_45 (by decide) ?_
        rw [nI_rem (Nat.lt_trans (dN_lt _) (by decide)) (by decide) (by decide)]
        refine sx_istore (pc := 46) dX7_deal_46 rfl (by decide) ?_
        show Ex _ _ _ _ _ _ [_, _, _, _, _, _, _, _] _ _ _
        refine ex_aload_n (pc := 48) dX7_deal_48 rfl ?_
        refine ex_aload_n (pc := 49) dX7_deal_49 rfl ?_
        refine cx_VL0i (pc := 50) dX7_deal_50 lk_X7_202 r1.1 rfl (Nat.le_of_ble_eq_true rfl) (Nat.le_of_ble_eq_true rfl) (by omega) (c_M_drawn2 r1) (fun h_50 x_50 q_50 => ?_)
        obtain ⟨⟨r2, u2⟩, e_50⟩ := q_50
        rw [e_50]
        refine ex_bipush (pc := 53) (v := (nI 48)) dX7_deal_53 (by decide) ?_
        refine ex_irem (pc := 55) dX7_deal_55 (by decide) ?_
        rw [nI_rem (Nat.lt_trans (dN_lt _) (by decide)) (by decide) (by decide)]
        have hn2 : drS (drS s) 0 = nI n := (upd_ne (by omega)).trans ((upd_ne (by omega)).trans hn)
        refine cx_VL1i (pc := 56) dX7_deal_56 lk_X7_205 r2.1 rfl (Nat.le_of_ble_eq_true rfl) (Nat.le_of_ble_eq_true rfl) (by omega) (c_M_nextFree r2 hn2 hn8 (by omega) (Nat.mod_lt _ (by decide))) (fun h_56 x_56 q_56 => ?_)
        obtain ⟨e_56, f_56⟩ := q_56
        rw [e_56, f_56, dpC_m, hc]
        refine sx_istore (pc := 59) dX7_deal_59 rfl (by decide) ?_
        show Ex _ _ _ _ _ _ [_, _, _, _, _, _, _, _] _ _ _
        refine ex_aload_n (pc := 61) dX7_deal_61 rfl ?_
        refine cx_VL0i (pc := 62) dX7_deal_62 lk_X7_202 r2.1 rfl (Nat.le_of_ble_eq_true rfl) (Nat.le_of_ble_eq_true rfl) (by omega) (c_M_drawn2 r2) (fun h_62 x_62 q_62 => ?_)
        obtain ⟨⟨r3, u3⟩, e_62⟩ := q_62
        rw [e_62]
        refine ex_iconst (pc := 65) (v := (nI 4)) dX7_deal_65 (by decide) ?_
        refine ex_irem (pc := 66) dX7_deal_66 (by decide) ?_
        rw [nI_rem (Nat.lt_trans (dN_lt _) (by decide)) (by decide) (by decide)]
        refine sx_istore (pc := 67) dX7_deal_67 rfl (by decide) ?_
        show Ex _ _ _ _ _ _ [_, _, _, _, _, _, _, _] _ _ _
        refine ex_aload_n (pc := 69) dX7_deal_69 rfl ?_
        refine cx_VL0i (pc := 70) dX7_deal_70 lk_X7_202 r3.1 rfl (Nat.le_of_ble_eq_true rfl) (Nat.le_of_ble_eq_true rfl) (by omega) (c_M_drawn2 r3) (fun h_70 x_70 q_70 => ?_)
        obtain ⟨⟨r4, u4⟩, e_70⟩ := q_70
        rw [e_70]
        refine ex_bipush (pc := 73) (v := (nI 60)) dX7_deal_73 (by decide) ?_
        refine ex_irem (pc := 75) dX7_deal_75 (by decide) ?_
        rw [nI_rem (Nat.lt_trans (dN_lt _) (by decide)) (by decide) (by decide)]
        refine sx_istore (pc := 76) dX7_deal_76 rfl (by decide) ?_
        show Ex _ _ _ _ _ _ [_, _, _, _, _, _, _, _] _ _ _
        refine ex_iload (pc := 78) dX7_deal_78 rfl ?_
        refine bx_if_lt_f (pc := 80) (tgt := 87) dX7_deal_80 (by decide) (nI_pos (by have := nfF_lt (Nat.mod_lt _ (by decide)) hc; omega)) ?_
        refine ex_iconst (pc := 83) (v := (nI 1)) dX7_deal_83 (by decide) ?_
        refine ex_goto (pc := 84) (tgt := 88) dX7_deal_84 (by decide) ?_
        refine sx_istore_n (pc := 88) dX7_deal_88 rfl (by decide) ?_
        show Ex _ _ _ _ _ _ [_, _, _, _, _, _, _, _] _ _ _
        refine ex_iload_n (pc := 89) dX7_deal_89 rfl ?_
        refine bx_if_eq_f (pc := 90) (tgt := 108) dX7_deal_90 (by decide) (by decide) ?_
        refine ex_aload_n (pc := 93) dX7_deal_93 rfl ?_
        refine ex_iload (pc := 94) dX7_deal_94 rfl ?_
        refine ex_iload (pc := 96) dX7_deal_96 rfl ?_
        refine ex_iload (pc := 98) dX7_deal_98 rfl ?_
        refine ex_iload (pc := 100) dX7_deal_100 rfl ?_
        have hn4 : dr4 s 0 = nI n := dr4_0.trans hn
        refine cx_VL4v (pc := 102) dX7_deal_102 lk_X7_167 r4.1 rfl (Nat.le_of_ble_eq_true rfl) (Nat.le_of_ble_eq_true rfl) (by omega) (c_M_comes2 r4 hn4 (by omega) h8 _ _ _ _) (fun h_102 q_102 => ?_)
        obtain ⟨r5, u5⟩ := q_102
        first | refine sx_inc (pc := 105) dX7_deal_105 rfl rfl (by decide) ?_ | refine sx_iinc (pc := 105) dX7_deal_105 rfl rfl (by decide) ?_
        show Ex _ _ _ _ _ _ [_, _, _, _, _, _, _, _] _ _ _
        refine ex_goto (pc := 108) (tgt := 19) dX7_deal_108 (by decide) ?_
        have e : dlS (m + 1) s n = ((dlS m (dpT s n (some j)) (n + 1)).1, (dlS m (dpT s n (some j)) (n + 1)).2 + 1) := by rw [dlS, if_pos h8, hc]
        rw [e]
        refine (ih (k + 1) (n + 1) _ _ _ _ _ r5 (((((hF.tr u1).tr u2).tr u3).tr u4).tr u5) (cm_0 hn4) (by omega) (by omega)).mono (fun h' r a => ?_)
        obtain ⟨x, e', a1, a2⟩ := a
        refine ⟨x, e', a1, ?_⟩
        rw [show k + ((dlS m (dpT s n (some j)) (n + 1)).2 + 1) = k + 1 + (dlS m (dpT s n (some j)) (n + 1)).2 by omega]; exact a2
    · skip
      refine ex_iload_n (pc := 19) dX7_deal_19 rfl ?_
      refine bx_if_eq_f (pc := 20) (tgt := 111) dX7_deal_20 (by decide) (by decide) ?_
      refine ex_iload_n (pc := 23) dX7_deal_23 rfl ?_
      refine ex_iload_n (pc := 24) dX7_deal_24 rfl ?_
      refine bx_icmp_ge_f (pc := 25) (tgt := 111) dX7_deal_25 (by decide) (nI_ge (by omega) (by omega)) ?_
      refine ex_aload_n (pc := 28) dX7_deal_28 rfl ?_
      refine ex_get (pc := 29) dX7_deal_29 fl_X7_7 hM.1 rfl ?_
      refine ex_iconst (pc := 32) (v := (nI 0)) dX7_deal_32 (by decide) ?_
      refine ex_ildn (k := 0) (pc := 33) dX7_deal_33 hM.2 rfl (by decide) (by decide) ?_
      refine ex_bipush (pc := 34) (v := (nI 8)) dX7_deal_34 (by decide) ?_
      refine bx_icmp_ge_t (pc := 36) (tgt := 111) dX7_deal_36 (by decide) (by rw [hn, show n = 8 by omega]; exact Int32.le_refl _) ?_
      refine ex_iload_n (pc := 111) dX7_deal_111 rfl ?_
      refine ex_ret dX7_deal_112 rfl ?_
      have e : dlS (m + 1) s n = (s, 0) := by rw [dlS, if_neg h8]
      rw [e]
      exact qi_mk ⟨⟨hM, hF⟩, rfl⟩

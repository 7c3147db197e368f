/-! how far a post reaches, what it sees -/
abbrev tLS (s : Nat → Int32) (t : Nat) : Nat := (s (90 + 200 * t + 2)).toNatClampNeg
def plnS (s : Nat → Int32) (nt : Nat) (ti si : Int32) : Int32 := match cntS s nt (nI 0) with
  | none => nI 5
  | some t => hld (txv s t (tLS s t) (nmF 0 ti si (s 2))) (nI 99)
def rchS (s : Nat → Int32) (nt : Nat) (kd ti si : Int32) : Int32 := rch kd (plnS s nt ti si)
theorem wth_hld (v : Int32) : wth v (nI 99) = hld v (nI 99) := by
  have e : (nI 99).toInt = 99 := by decide
  have e0 : (0 : Int32).toInt = 0 := by decide
  unfold wth hld mx32 mn32
  by_cases h1 : v < 0
  · have h2 : ¬ nI 99 < v := by rw [Int32.lt_iff_toInt_lt] at h1 ⊢; omega
    have h3 : ¬ (0 : Int32) < v := by rw [Int32.lt_iff_toInt_lt] at h1 ⊢; omega
    rw [if_pos h1, if_neg h2, if_neg h3]
  · rw [if_neg h1]
    by_cases h2 : nI 99 < v
    · rw [if_pos h2, if_pos (by decide)]
    · rw [if_neg h2]
      by_cases h3 : (0 : Int32) < v
      · rw [if_pos h3]
      · rw [if_neg h3]
        apply Int32.toInt_inj.mp
        rw [Int32.lt_iff_toInt_lt] at h1 h3
        omega
theorem tLS_eq {s : Nat → Int32} {t ky L lv : Nat} (h : txtOK s t ky L lv) : tLS s t = L := by
  have := h.2.2.2.2.2.2.2.1
  show (s (90 + 200 * t + 2)).toNatClampNeg = L
  rw [h.2.2.2.1, nI_clamp (by omega)]
set_option maxHeartbeats 4000000 in
set_option maxRecDepth 100000 in
theorem c_M_counts_l {g : Gl} {d ks : Nat} {h : AH} {z s : Nat → Int32} (hM : Ms g h z s) {nt : Nat} (hnt : s 1 = nI nt) (hnt2 : nt ≤ 14) (hd : 1 ≤ d) (key : Int32) : ∀ (m t : Nat), t + m = nt → Ex g mX7_counts d 0 ks 4 [some (.ref (g.1 + 75)), some (.int key), some (.int (oN (-1) (lstF (keyS s) key t))), some (.int (nI t))] [] h (qi (fun h' r => h' = h ∧ r = oN (-1) (cntS s nt key))) := by
  intro m
  induction m with
  | zero =>
    intro t ht
    refine ex_iload_n (pc := 4) dX7_counts_4 rfl ?_
    refine ex_aload_n (pc := 5) dX7_counts_5 rfl ?_
    refine ex_get (pc := 6) dX7_counts_6 fl_X7_7 hM.1 rfl ?_
    refine ex_iconst (pc := 9) (v := (nI 1)) dX7_counts_9 (by decide) ?_
    refine ex_ildn (k := 1) (pc := 10) dX7_counts_10 hM.2 (by first | rfl | (simp only [nI_add, nI_mul]; done) | (simp only [nI_add, nI_mul]; rfl)) (by omega) (by decide) ?_
    refine bx_icmp_ge_t (pc := 11) (tgt := 40) dX7_counts_11 (by decide) (by rw [hnt, show t = nt by omega]; exact Int32.le_refl _) ?_
    refine ex_iload_n (pc := 40) dX7_counts_40 rfl ?_
    refine ex_ret dX7_counts_41 rfl ?_
    obtain rfl : t = nt := by omega
    exact qi_mk ⟨rfl, rfl⟩
  | succ m ih =>
    intro t ht
    refine ex_iload_n (pc := 4) dX7_counts_4 rfl ?_
    refine ex_aload_n (pc := 5) dX7_counts_5 rfl ?_
    refine ex_get (pc := 6) dX7_counts_6 fl_X7_7 hM.1 rfl ?_
    refine ex_iconst (pc := 9) (v := (nI 1)) dX7_counts_9 (by decide) ?_
    refine ex_ildn (k := 1) (pc := 10) dX7_counts_10 hM.2 (by first | rfl | (simp only [nI_add, nI_mul]; done) | (simp only [nI_add, nI_mul]; rfl)) (by omega) (by decide) ?_
    refine bx_icmp_ge_f (pc := 11) (tgt := 40) dX7_counts_11 (by decide) (by rw [hnt]; exact nI_ge (by omega) (by omega)) ?_
    refine ex_aload_n (pc := 14) dX7_counts_14 rfl ?_
    refine ex_get (pc := 15) dX7_counts_15 fl_X7_7 hM.1 rfl ?_
    refine ex_aload_n (pc := 18) dX7_counts_18 rfl ?_
    refine ex_iload_n (pc := 19) dX7_counts_19 rfl ?_
    refine cx_VL1i (pc := 20) dX7_counts_20 lk_X7_354 hM.1 rfl (Nat.le_of_ble_eq_true rfl) (Nat.le_of_ble_eq_true rfl) (by omega) (c_M_textAt _) (fun h_20 x_20 q_20 => ?_)
    obtain ⟨e_20, rfl⟩ := q_20
    rw [e_20]
    refine ex_ildn (k := 90 + 200 * t + 0) (pc := 23) dX7_counts_23 hM.2 (by first | rfl | (simp only [nI_add, nI_mul]; done) | (simp only [nI_add, nI_mul]; rfl)) (by omega) (by decide) ?_
    refine ex_iload_n (pc := 24) dX7_counts_24 rfl ?_
    refine ex_icmp_ne (pc := 25) (tgt := 32) dX7_counts_25 (by decide) (fun c_25 => ?_) (fun c_25 => ?_)
    · skip
      refine ex_iload_n (pc := 32) dX7_counts_32 rfl ?_
      refine sx_istore_n (pc := 33) dX7_counts_33 rfl (by decide) ?_
      show Ex _ _ _ _ _ _ [_, _, _, _] _ _ _
      first | refine sx_inc (pc := 34) dX7_counts_34 rfl rfl (by decide) ?_ | refine sx_iinc (pc := 34) dX7_counts_34 rfl rfl (by decide) ?_
      show Ex _ _ _ _ _ _ [_, _, _, _] _ _ _
      refine ex_goto (pc := 37) (tgt := 4) dX7_counts_37 (by decide) ?_
      have z := ih (t + 1) (by omega)
      rw [lstF] at z
      first | (rw [if_pos c_25] at z; exact z) | (rw [if_neg c_25] at z; exact z)
    · skip
      refine ex_iload_n (pc := 28) dX7_counts_28 rfl ?_
      refine ex_goto (pc := 29) (tgt := 33) dX7_counts_29 (by decide) ?_
      refine sx_istore_n (pc := 33) dX7_counts_33 rfl (by decide) ?_
      show Ex _ _ _ _ _ _ [_, _, _, _] _ _ _
      first | refine sx_inc (pc := 34) dX7_counts_34 rfl rfl (by decide) ?_ | refine sx_iinc (pc := 34) dX7_counts_34 rfl rfl (by decide) ?_
      show Ex _ _ _ _ _ _ [_, _, _, _] _ _ _
      refine ex_goto (pc := 37) (tgt := 4) dX7_counts_37 (by decide) ?_
      have z := ih (t + 1) (by omega)
      rw [lstF] at z
      first | (rw [if_pos c_25] at z; exact z) | (rw [if_neg c_25] at z; exact z)
set_option maxHeartbeats 4000000 in
set_option maxRecDepth 100000 in
theorem c_M_counts {g : Gl} {d ks : Nat} {h : AH} {z s : Nat → Int32} (hM : Ms g h z s) {nt : Nat} (hnt : s 1 = nI nt) (hnt2 : nt ≤ 14) (hd : 1 ≤ d) (key : Int32) : Ex g mX7_counts d 0 ks 0 [some (.ref (g.1 + 75)), some (.int key), none, none] [] h (qi (fun h' r => h' = h ∧ r = oN (-1) (cntS s nt key))) := by
  refine ex_iconst (pc := 0) (v := (-1)) dX7_counts_0 (by decide) ?_
  refine sx_istore_n (pc := 1) dX7_counts_1 rfl (by decide) ?_
  show Ex _ _ _ _ _ _ [_, _, _, _] _ _ _
  refine ex_iconst (pc := 2) (v := (nI 0)) dX7_counts_2 (by decide) ?_
  refine sx_istore_n (pc := 3) dX7_counts_3 rfl (by decide) ?_
  show Ex _ _ _ _ _ _ [_, _, _, _] _ _ _
  exact c_M_counts_l hM hnt hnt2 hd key nt 0 (by omega)
set_option maxHeartbeats 4000000 in
set_option maxRecDepth 100000 in
theorem c_M_plain {g : Gl} {d ks : Nat} {h : AH} {z s : Nat → Int32} {n nt : Nat} (hR : MR g h z s n nt) (hd : 2 ≤ d) (ti si : Int32) : Ex g mX7_plain d 0 ks 0 [some (.ref (g.1 + 75)), some (.int ti), some (.int si), none] [] h (qi (fun h' r => Sq g h h' ∧ r = plnS s nt ti si)) := by
  obtain ⟨hM, hPo, hT, ⟨nm, hnm⟩, fp, hfp⟩ := hR
  have hnt2 := hT.2.1
  cases hc : cntS s nt (nI 0) with
  | none =>
    refine ex_aload_n (pc := 0) dX7_plain_0 rfl ?_
    refine ex_iconst (pc := 1) (v := (nI 0)) dX7_plain_1 (by decide) ?_
    refine cx_VL1i (pc := 2) dX7_plain_2 lk_X7_88 hM.1 rfl (Nat.le_of_ble_eq_true rfl) (Nat.le_of_ble_eq_true rfl) (by omega) (c_M_counts hM hT.1 hT.2.1 (by omega) _) (fun h_2 x_2 q_2 => ?_)
    obtain ⟨e_2, rfl⟩ := q_2
    rw [e_2]
    rw [hc]
    refine sx_istore_n (pc := 5) dX7_plain_5 rfl (by decide) ?_
    show Ex _ _ _ _ _ _ [_, _, _, _] _ _ _
    refine ex_iload_n (pc := 6) dX7_plain_6 rfl ?_
    refine bx_if_ge_f (pc := 7) (tgt := 12) dX7_plain_7 (by decide) (by show ¬ (0 : Int32) ≤ -1; decide) ?_
    refine ex_iconst (pc := 10) (v := (nI 5)) dX7_plain_10 (by decide) ?_
    refine ex_ret dX7_plain_11 rfl ?_
    exact qi_mk ⟨Sq.rf, by rw [plnS, hc]⟩
  | some t =>
    obtain ⟨ht, hkey⟩ := lstF_lt hc
    obtain ⟨ky, L, lv, hok⟩ := hT.2.2 t ht
    refine ex_aload_n (pc := 0) dX7_plain_0 rfl ?_
    refine ex_iconst (pc := 1) (v := (nI 0)) dX7_plain_1 (by decide) ?_
    refine cx_VL1i (pc := 2) dX7_plain_2 lk_X7_88 hM.1 rfl (Nat.le_of_ble_eq_true rfl) (Nat.le_of_ble_eq_true rfl) (by omega) (c_M_counts hM hT.1 hT.2.1 (by omega) _) (fun h_2 x_2 q_2 => ?_)
    obtain ⟨e_2, rfl⟩ := q_2
    rw [e_2]
    rw [hc]
    refine sx_istore_n (pc := 5) dX7_plain_5 rfl (by decide) ?_
    show Ex _ _ _ _ _ _ [_, _, _, _] _ _ _
    refine ex_iload_n (pc := 6) dX7_plain_6 rfl ?_
    refine bx_if_ge_t (pc := 7) (tgt := 12) dX7_plain_7 (by decide) (nI_pos' (show t < 2147483648 by omega)) ?_
    refine ex_aload_n (pc := 12) dX7_plain_12 rfl ?_
    refine ex_get (pc := 13) dX7_plain_13 fl_X7_53 hM.1 rfl ?_
    refine ex_bipush (pc := 16) (v := (nI 116)) dX7_plain_16 (by decide) ?_
    refine ex_iload_n (pc := 18) dX7_plain_18 rfl ?_
    refine ex_istn (k := 116) (pc := 19) dX7_plain_19 hnm (by first | rfl | (simp only [nI_add, nI_mul]; done) | (simp only [nI_add, nI_mul]; rfl)) (by omega) (by decide) ?_
    refine ex_aload_n (pc := 20) dX7_plain_20 rfl ?_
    refine ex_get (pc := 21) dX7_plain_21 fl_X7_53 (gs_ne (by decide) hM.1) rfl ?_
    refine ex_bipush (pc := 24) (v := (nI 115)) dX7_plain_24 (by decide) ?_
    refine ex_iload_n (pc := 26) dX7_plain_26 rfl ?_
    refine ex_istn (k := 115) (pc := 27) dX7_plain_27 (gs_eq hnm) (by first | rfl | (simp only [nI_add, nI_mul]; done) | (simp only [nI_add, nI_mul]; rfl)) (by omega) (by decide) ?_
    refine ex_aload_n (pc := 28) dX7_plain_28 rfl ?_
    refine ex_get (pc := 29) dX7_plain_29 fl_X7_53 (gs_ne (by decide) (gs_ne (by decide) hM.1)) rfl ?_
    refine ex_bipush (pc := 32) (v := (nI 104)) dX7_plain_32 (by decide) ?_
    refine ex_aload_n (pc := 34) dX7_plain_34 rfl ?_
    refine ex_get (pc := 35) dX7_plain_35 fl_X7_7 (gs_ne (by decide) (gs_ne (by decide) hM.1)) rfl ?_
    refine ex_iconst (pc := 38) (v := (nI 2)) dX7_plain_38 (by decide) ?_
    refine ex_ildn (k := 2) (pc := 39) dX7_plain_39 (gs_ne (by decide) (gs_ne (by decide) hM.2)) (by first | rfl | (simp only [nI_add, nI_mul]; done) | (simp only [nI_add, nI_mul]; rfl)) (by omega) (by decide) ?_
    refine ex_istn (k := 104) (pc := 40) dX7_plain_40 (gs_eq (gs_eq hnm)) (by first | rfl | (simp only [nI_add, nI_mul]; done) | (simp only [nI_add, nI_mul]; rfl)) (by omega) (by decide) ?_
    simp only [List.set_set]
    have hMs : Ms g (h.set 90 (ia g 128 (upd (upd (upd nm 116 ti) 115 si) 104 (s 2)))) z s := ⟨gs_ne (by decide) hM.1, gs_ne (by decide) hM.2⟩
    refine ex_aload_n (pc := 41) dX7_plain_41 rfl ?_
    refine ex_iload_n (pc := 42) dX7_plain_42 rfl ?_
    refine cx_VL1i (pc := 43) dX7_plain_43 lk_X7_91 hMs.1 rfl (Nat.le_of_ble_eq_true rfl) (Nat.le_of_ble_eq_true rfl) (by omega) (c_M_worked hMs (t := t) (lv := lv) (nm := upd (upd (upd nm 116 ti) 115 si) 104 (s 2)) (fs := fp) (by omega) (by omega) (gs_eq hnm) (gs_ne (by decide) hfp) hok.txm (hok.wf _)) (fun h_43 x_43 q_43 => ?_)
    obtain ⟨e_43, rfl⟩ := q_43
    rw [e_43]
    refine ex_bipush (pc := 46) (v := (nI 99)) dX7_plain_46 (by decide) ?_
    refine cx_SL2i (pc := 48) dX7_plain_48 lk_X7_94 rfl (Nat.le_of_ble_eq_true rfl) (Nat.le_of_ble_eq_true rfl) (by omega) (c_M_within _ _) (fun h_48 x_48 q_48 => ?_)
    obtain ⟨e_48, rfl⟩ := q_48
    rw [e_48]
    refine ex_ret dX7_plain_51 rfl ?_
    refine qi_mk ⟨(Sq.st (Or.inl rfl) hnm).tr (Sq.st (Or.inr (Or.inl rfl)) (gs_ne (by decide) hfp)), ?_⟩
    rw [plnS, hc]
    show wth _ _ = hld (txv s t (tLS s t) _) _
    rw [wth_hld, tLS_eq hok, txv_eq hok (nm' := nmF 0 ti si (s 2))]
    intro p hp
    have hky : ky = 0 := by
      have e1 := hok.1
      rw [hkey] at e1
      exact ((nI_eq (by omega) (by have := hok.2.1; omega)).mp e1).symm
    subst hky
    have hp3 : p = 0 ∨ p = 1 ∨ p = 2 := by unfold nlt at hp; simp at hp; omega
    rcases hp3 with rfl | rfl | rfl <;> rfl
set_option maxHeartbeats 4000000 in
set_option maxRecDepth 100000 in
theorem c_M_reaches {g : Gl} {d ks : Nat} {h : AH} {z s : Nat → Int32} {n nt : Nat} (hR : MR g h z s n nt) (hd : 3 ≤ d) (kd si ti : Int32) : Ex g mX7_reaches d 0 ks 0 [some (.ref (g.1 + 75)), some (.int kd), some (.int si), some (.int ti), none] [] h (qi (fun h' r => Sq g h h' ∧ r = rchS s nt kd ti si)) := by
  refine ex_aload_n (pc := 0) dX7_reaches_0 rfl ?_
  refine ex_iload_n (pc := 1) dX7_reaches_1 rfl ?_
  refine ex_iload_n (pc := 2) dX7_reaches_2 rfl ?_
  refine cx_VL2i (pc := 3) dX7_reaches_3 lk_X7_97 hR.1.1 rfl (Nat.le_of_ble_eq_true rfl) (Nat.le_of_ble_eq_true rfl) (by omega) (c_M_plain hR (by omega) _ _) (fun h_3 x_3 q_3 => ?_)
  obtain ⟨hs_3, rfl⟩ := q_3
  refine sx_istore (pc := 6) dX7_reaches_6 rfl (by decide) ?_
  show Ex _ _ _ _ _ _ [_, _, _, _, _] _ _ _
  refine ex_iload_n (pc := 8) dX7_reaches_8 rfl ?_
  refine ex_iconst (pc := 9) (v := (nI 1)) dX7_reaches_9 (by decide) ?_
  refine ex_icmp_ne (pc := 10) (tgt := 20) dX7_reaches_10 (by decide) (fun c_10 => ?_) (fun c_10 => ?_)
  · skip
    refine ex_iload_n (pc := 20) dX7_reaches_20 rfl ?_
    refine ex_iconst (pc := 21) (v := (nI 3)) dX7_reaches_21 (by decide) ?_
    refine ex_icmp_ne (pc := 22) (tgt := 34) dX7_reaches_22 (by decide) (fun c_22 => ?_) (fun c_22 => ?_)
    · skip
      refine ex_iload (pc := 34) dX7_reaches_34 rfl ?_
      refine ex_ret dX7_reaches_36 rfl ?_
      refine qi_mk ⟨by assumption, ?_⟩
      first | (simp_all [rchS, rch, nI_eq]; done) | (simp_all [rchS, rch, nI_eq]; grind)
    · skip
      refine ex_iconst (pc := 25) (v := (nI 2)) dX7_reaches_25 (by decide) ?_
      refine ex_iload (pc := 26) dX7_reaches_26 rfl ?_
      refine ex_iconst (pc := 28) (v := (nI 2)) dX7_reaches_28 (by decide) ?_
      refine ex_iadd (pc := 29) dX7_reaches_29 ?_
      refine ex_imul (pc := 30) dX7_reaches_30 ?_
      refine ex_goto (pc := 31) (tgt := 36) dX7_reaches_31 (by decide) ?_
      refine ex_ret dX7_reaches_36 rfl ?_
      refine qi_mk ⟨by assumption, ?_⟩
      first | (simp_all [rchS, rch, nI_eq]; done) | (simp_all [rchS, rch, nI_eq]; grind)
  · skip
    refine ex_iload (pc := 13) dX7_reaches_13 rfl ?_
    refine ex_iconst (pc := 15) (v := (nI 2)) dX7_reaches_15 (by decide) ?_
    refine ex_iadd (pc := 16) dX7_reaches_16 ?_
    refine ex_goto (pc := 17) (tgt := 36) dX7_reaches_17 (by decide) ?_
    refine ex_ret dX7_reaches_36 rfl ?_
    refine qi_mk ⟨by assumption, ?_⟩
    first | (simp_all [rchS, rch, nI_eq]; done) | (simp_all [rchS, rch, nI_eq]; grind)
set_option maxHeartbeats 4000000 in
set_option maxRecDepth 100000 in
theorem c_M_reachOf {g : Gl} {d ks : Nat} {h : AH} {z s : Nat → Int32} {n nt : Nat} (hR : MR g h z s n nt) (hd : 4 ≤ d) {k : Nat} (hk : k < 8) : Ex g mX7_reachOf d 0 ks 0 [some (.ref (g.1 + 75)), some (.int (nI k))] [] h (qi (fun h' r => Sq g h h' ∧ r = rchS s nt (s (10 + 4 * k + 0)) (s (10 + 4 * k + 3)) (s (10 + 4 * k + 2)))) := by
  refine ex_aload_n (pc := 0) dX7_reachOf_0 rfl ?_
  refine ex_aload_n (pc := 1) dX7_reachOf_1 rfl ?_
  refine ex_iload_n (pc := 2) dX7_reachOf_2 rfl ?_
  refine ex_iconst (pc := 3) (v := (nI 0)) dX7_reachOf_3 (by decide) ?_
  refine cx_VL2i (pc := 4) dX7_reachOf_4 lk_X7_76 hR.1.1 rfl (Nat.le_of_ble_eq_true rfl) (Nat.le_of_ble_eq_true rfl) (by omega) (c_M_of hR.1 (k := k) (f := 0) (by omega)) (fun h_4 x_4 q_4 => ?_)
  obtain ⟨e_4, rfl⟩ := q_4
  rw [e_4]
  refine ex_aload_n (pc := 7) dX7_reachOf_7 rfl ?_
  refine ex_iload_n (pc := 8) dX7_reachOf_8 rfl ?_
  refine ex_iconst (pc := 9) (v := (nI 2)) dX7_reachOf_9 (by decide) ?_
  refine cx_VL2i (pc := 10) dX7_reachOf_10 lk_X7_76 hR.1.1 rfl (Nat.le_of_ble_eq_true rfl) (Nat.le_of_ble_eq_true rfl) (by omega) (c_M_of hR.1 (k := k) (f := 2) (by omega)) (fun h_10 x_10 q_10 => ?_)
  obtain ⟨e_10, rfl⟩ := q_10
  rw [e_10]
  refine ex_aload_n (pc := 13) dX7_reachOf_13 rfl ?_
  refine ex_iload_n (pc := 14) dX7_reachOf_14 rfl ?_
  refine ex_iconst (pc := 15) (v := (nI 3)) dX7_reachOf_15 (by decide) ?_
  refine cx_VL2i (pc := 16) dX7_reachOf_16 lk_X7_76 hR.1.1 rfl (Nat.le_of_ble_eq_true rfl) (Nat.le_of_ble_eq_true rfl) (by omega) (c_M_of hR.1 (k := k) (f := 3) (by omega)) (fun h_16 x_16 q_16 => ?_)
  obtain ⟨e_16, rfl⟩ := q_16
  rw [e_16]
  refine cx_VL3i (pc := 19) dX7_reachOf_19 lk_X7_118 hR.1.1 rfl (Nat.le_of_ble_eq_true rfl) (Nat.le_of_ble_eq_true rfl) (by omega) (c_M_reaches hR (by omega) _ _ _) (fun h_19 x_19 q_19 => ?_)
  obtain ⟨hs_19, rfl⟩ := q_19
  refine ex_ret dX7_reachOf_22 rfl ?_
  exact qi_mk ⟨by assumption, rfl⟩
theorem or0L (x : Int64) : x ||| 0 = x := by
  apply bL_ext; intro i _; rw [bL_or, bL_0, Bool.or_false]
set_option maxHeartbeats 4000000 in
set_option maxRecDepth 100000 in
theorem c_M_seenFrom_l {g : Gl} {d ks : Nat} {h : AH} {z s : Nat → Int32} {n nt : Nat} (hR : MR g h z s n nt) (hd : 3 ≤ d) (kd rc : Int32) {c si : Nat} (hc : c < 48) (hsi : si < 4) : ∀ (m k : Nat), k + m = 48 → Ex g mX7_seenFrom d 0 ks 6 [some (.ref (g.1 + 75)), some (.int kd), some (.int (nI c)), some (.int (nI si)), some (.int rc), some (.long (setL (fun t => seeS s kd (nI si) c rc t) k)), none, some (.int (nI k))] [] h (ql (fun h' r => h' = h ∧ r = setL (fun t => seeS s kd (nI si) c rc t) 48)) := by
  intro m
  induction m with
  | zero =>
    intro k hk
    refine ex_iload (pc := 6) dX7_seenFrom_6 rfl ?_
    refine ex_bipush (pc := 8) (v := (nI 48)) dX7_seenFrom_8 (by decide) ?_
    refine bx_icmp_ge_t (pc := 10) (tgt := 46) dX7_seenFrom_10 (by decide) (by rw [show k = 48 by omega]; exact Int32.le_refl _) ?_
    refine ex_lload (pc := 46) dX7_seenFrom_46 rfl ?_
    refine ex_lret dX7_seenFrom_48 rfl ?_
    obtain rfl : k = 48 := by omega
    exact ql_mk ⟨rfl, rfl⟩
  | succ m ih =>
    intro k hk
    refine ex_iload (pc := 6) dX7_seenFrom_6 rfl ?_
    refine ex_bipush (pc := 8) (v := (nI 48)) dX7_seenFrom_8 (by decide) ?_
    refine bx_icmp_ge_f (pc := 10) (tgt := 46) dX7_seenFrom_10 (by decide) (nI_ge (by omega) (by omega)) ?_
    refine ex_lload (pc := 13) dX7_seenFrom_13 rfl ?_
    refine ex_aload_n (pc := 15) dX7_seenFrom_15 rfl ?_
    refine ex_iload_n (pc := 16) dX7_seenFrom_16 rfl ?_
    refine ex_iload_n (pc := 17) dX7_seenFrom_17 rfl ?_
    refine ex_iload_n (pc := 18) dX7_seenFrom_18 rfl ?_
    refine ex_iload (pc := 19) dX7_seenFrom_19 rfl ?_
    refine ex_iload (pc := 21) dX7_seenFrom_21 rfl ?_
    refine cx_VL5i (pc := 23) dX7_seenFrom_23 lk_X7_124 hR.1.1 rfl (Nat.le_of_ble_eq_true rfl) (Nat.le_of_ble_eq_true rfl) (by omega) (c_M_isSeen hR.1 (by omega) hc (show k < 48 by omega) _ _ hsi) (fun h_23 x_23 q_23 => ?_)
    obtain ⟨e_23, rfl⟩ := q_23
    rw [e_23]
    refine ex_if_eq (pc := 26) (tgt := 36) dX7_seenFrom_26 (by decide) (fun c_26 => ?_) (fun c_26 => ?_)
    · skip
      refine ex_lconst (pc := 36) (v := 0) dX7_seenFrom_36 (by decide) ?_
      refine ex_lor (pc := 37) dX7_seenFrom_37 ?_
      refine sx_lstore (pc := 38) dX7_seenFrom_38 rfl (by decide) ?_
      show Ex _ _ _ _ _ _ [_, _, _, _, _, _, _, _] _ _ _
      first | refine sx_inc (pc := 40) dX7_seenFrom_40 rfl rfl (by decide) ?_ | refine sx_iinc (pc := 40) dX7_seenFrom_40 rfl rfl (by decide) ?_
      show Ex _ _ _ _ _ _ [_, _, _, _, _, _, _, _] _ _ _
      refine ex_goto (pc := 43) (tgt := 6) dX7_seenFrom_43 (by decide) ?_
      have z := ih (k + 1) (by omega)
      rw [setL] at z
      simp only [bI_0] at c_26
      first | (rw [if_pos (Decidable.not_not.mp c_26)] at z; exact z) | (rw [if_neg c_26] at z; rw [or0L]; exact z)
    · skip
      refine ex_lconst (pc := 29) (v := 1) dX7_seenFrom_29 (by decide) ?_
      refine ex_iload (pc := 30) dX7_seenFrom_30 rfl ?_
      refine ex_lshl (pc := 32) dX7_seenFrom_32 ?_
      refine ex_goto (pc := 33) (tgt := 37) dX7_seenFrom_33 (by decide) ?_
      refine ex_lor (pc := 37) dX7_seenFrom_37 ?_
      refine sx_lstore (pc := 38) dX7_seenFrom_38 rfl (by decide) ?_
      show Ex _ _ _ _ _ _ [_, _, _, _, _, _, _, _] _ _ _
      first | refine sx_inc (pc := 40) dX7_seenFrom_40 rfl rfl (by decide) ?_ | refine sx_iinc (pc := 40) dX7_seenFrom_40 rfl rfl (by decide) ?_
      show Ex _ _ _ _ _ _ [_, _, _, _, _, _, _, _] _ _ _
      refine ex_goto (pc := 43) (tgt := 6) dX7_seenFrom_43 (by decide) ?_
      have z := ih (k + 1) (by omega)
      rw [setL] at z
      simp only [bI_0] at c_26
      first | (rw [if_pos (Decidable.not_not.mp c_26)] at z; exact z) | (rw [if_neg c_26] at z; rw [or0L]; exact z)
set_option maxHeartbeats 4000000 in
set_option maxRecDepth 100000 in
theorem c_M_seenFrom {g : Gl} {d ks : Nat} {h : AH} {z s : Nat → Int32} {n nt : Nat} (hR : MR g h z s n nt) (hd : 3 ≤ d) (kd rc : Int32) {c si : Nat} (hc : c < 48) (hsi : si < 4) : Ex g mX7_seenFrom d 0 ks 0 [some (.ref (g.1 + 75)), some (.int kd), some (.int (nI c)), some (.int (nI si)), some (.int rc), none, none, none] [] h (ql (fun h' r => h' = h ∧ r = setL (fun t => seeS s kd (nI si) c rc t) 48)) := by
  refine ex_lconst (pc := 0) (v := 0) dX7_seenFrom_0 (by decide) ?_
  refine sx_lstore (pc := 1) dX7_seenFrom_1 rfl (by decide) ?_
  show Ex _ _ _ _ _ _ [_, _, _, _, _, _, _, _] _ _ _
  refine ex_iconst (pc := 3) (v := (nI 0)) dX7_seenFrom_3 (by decide) ?_
  refine sx_istore (pc := 4) dX7_seenFrom_4 rfl (by decide) ?_
  show Ex _ _ _ _ _ _ [_, _, _, _, _, _, _, _] _ _ _
  exact c_M_seenFrom_l hR hd kd rc hc hsi 48 0 (by omega)
/-- what post k of the row sees -/
def sgt (s : Nat → Int32) (nt k : Nat) : Nat → Bool := seeS s (s (10 + 4 * k + 0)) (s (10 + 4 * k + 2)) (s (10 + 4 * k + 1)).toNatClampNeg (rchS s nt (s (10 + 4 * k + 0)) (s (10 + 4 * k + 3)) (s (10 + 4 * k + 2)))
set_option maxHeartbeats 4000000 in
set_option maxRecDepth 100000 in
theorem c_M_seenBy {g : Gl} {d ks : Nat} {h : AH} {z s : Nat → Int32} {n nt : Nat} (hR : MR g h z s n nt) (hd : 5 ≤ d) {k : Nat} (hk : k < n) : Ex g mX7_seenBy d 0 ks 0 [some (.ref (g.1 + 75)), some (.int (nI k))] [] h (ql (fun h' r => Sq g h h' ∧ r = setL (sgt s nt k) 48)) := by
  have hn8 := hR.2.1.2.1
  obtain ⟨⟨kd, hkd, ekd⟩, ⟨c, hc, ec⟩, σ, hσ, eσ⟩ := hR.2.1.2.2 k hk
  refine ex_aload_n (pc := 0) dX7_seenBy_0 rfl ?_
  refine ex_aload_n (pc := 1) dX7_seenBy_1 rfl ?_
  refine ex_iload_n (pc := 2) dX7_seenBy_2 rfl ?_
  refine ex_iconst (pc := 3) (v := (nI 0)) dX7_seenBy_3 (by decide) ?_
  refine cx_VL2i (pc := 4) dX7_seenBy_4 lk_X7_76 hR.1.1 rfl (Nat.le_of_ble_eq_true rfl) (Nat.le_of_ble_eq_true rfl) (by omega) (c_M_of hR.1 (k := k) (f := 0) (by omega)) (fun h_4 x_4 q_4 => ?_)
  obtain ⟨e_4, rfl⟩ := q_4
  rw [e_4]
  refine ex_aload_n (pc := 7) dX7_seenBy_7 rfl ?_
  refine ex_iload_n (pc := 8) dX7_seenBy_8 rfl ?_
  refine ex_iconst (pc := 9) (v := (nI 1)) dX7_seenBy_9 (by decide) ?_
  refine cx_VL2i (pc := 10) dX7_seenBy_10 lk_X7_76 hR.1.1 rfl (Nat.le_of_ble_eq_true rfl) (Nat.le_of_ble_eq_true rfl) (by omega) (c_M_of hR.1 (k := k) (f := 1) (by omega)) (fun h_10 x_10 q_10 => ?_)
  obtain ⟨e_10, rfl⟩ := q_10
  rw [e_10]
  refine ex_aload_n (pc := 13) dX7_seenBy_13 rfl ?_
  refine ex_iload_n (pc := 14) dX7_seenBy_14 rfl ?_
  refine ex_iconst (pc := 15) (v := (nI 2)) dX7_seenBy_15 (by decide) ?_
  refine cx_VL2i (pc := 16) dX7_seenBy_16 lk_X7_76 hR.1.1 rfl (Nat.le_of_ble_eq_true rfl) (Nat.le_of_ble_eq_true rfl) (by omega) (c_M_of hR.1 (k := k) (f := 2) (by omega)) (fun h_16 x_16 q_16 => ?_)
  obtain ⟨e_16, rfl⟩ := q_16
  rw [e_16]
  refine ex_aload_n (pc := 19) dX7_seenBy_19 rfl ?_
  refine ex_iload_n (pc := 20) dX7_seenBy_20 rfl ?_
  refine cx_VL1i (pc := 21) dX7_seenBy_21 lk_X7_121 hR.1.1 rfl (Nat.le_of_ble_eq_true rfl) (Nat.le_of_ble_eq_true rfl) (by omega) (c_M_reachOf hR (by omega) (show k < 8 by omega)) (fun h_21 x_21 q_21 => ?_)
  obtain ⟨hs_21, rfl⟩ := q_21
  rw [ec, eσ]
  refine cx_VL4l (pc := 24) dX7_seenBy_24 lk_X7_128 (hR.sq hs_21).1.1 rfl (Nat.le_of_ble_eq_true rfl) (Nat.le_of_ble_eq_true rfl) (by omega) (c_M_seenFrom (hR.sq hs_21) (by omega) _ _ hc hσ) (fun h_24 x_24 q_24 => ?_)
  obtain ⟨e_24, rfl⟩ := q_24
  rw [e_24]
  refine ex_lret dX7_seenBy_27 rfl ?_
  refine ql_mk ⟨by assumption, ?_⟩
  unfold sgt
  rw [ec, eσ, nI_clamp (by omega)]
set_option maxHeartbeats 4000000 in
set_option maxRecDepth 100000 in
theorem c_M_seesIt {g : Gl} {d ks : Nat} {h : AH} {z s : Nat → Int32} {n nt : Nat} (hR : MR g h z s n nt) (hd : 5 ≤ d) {k : Nat} (hk : k < n) {t : Nat} (ht : t < 48) : Ex g mX7_seesIt d 0 ks 0 [some (.ref (g.1 + 75)), some (.int (nI k)), some (.int (nI t))] [] h (qi (fun h' r => Sq g h h' ∧ r = bI (sgt s nt k t = true))) := by
  have hn8 := hR.2.1.2.1
  obtain ⟨⟨kd, hkd, ekd⟩, ⟨c, hc, ec⟩, σ, hσ, eσ⟩ := hR.2.1.2.2 k hk
  refine ex_aload_n (pc := 0) dX7_seesIt_0 rfl ?_
  refine ex_aload_n (pc := 1) dX7_seesIt_1 rfl ?_
  refine ex_iload_n (pc := 2) dX7_seesIt_2 rfl ?_
  refine ex_iconst (pc := 3) (v := (nI 0)) dX7_seesIt_3 (by decide) ?_
  refine cx_VL2i (pc := 4) dX7_seesIt_4 lk_X7_76 hR.1.1 rfl (Nat.le_of_ble_eq_true rfl) (Nat.le_of_ble_eq_true rfl) (by omega) (c_M_of hR.1 (k := k) (f := 0) (by omega)) (fun h_4 x_4 q_4 => ?_)
  obtain ⟨e_4, rfl⟩ := q_4
  rw [e_4]
  refine ex_aload_n (pc := 7) dX7_seesIt_7 rfl ?_
  refine ex_iload_n (pc := 8) dX7_seesIt_8 rfl ?_
  refine ex_iconst (pc := 9) (v := (nI 1)) dX7_seesIt_9 (by decide) ?_
  refine cx_VL2i (pc := 10) dX7_seesIt_10 lk_X7_76 hR.1.1 rfl (Nat.le_of_ble_eq_true rfl) (Nat.le_of_ble_eq_true rfl) (by omega) (c_M_of hR.1 (k := k) (f := 1) (by omega)) (fun h_10 x_10 q_10 => ?_)
  obtain ⟨e_10, rfl⟩ := q_10
  rw [e_10]
  refine ex_aload_n (pc := 13) dX7_seesIt_13 rfl ?_
  refine ex_iload_n (pc := 14) dX7_seesIt_14 rfl ?_
  refine ex_iconst (pc := 15) (v := (nI 2)) dX7_seesIt_15 (by decide) ?_
  refine cx_VL2i (pc := 16) dX7_seesIt_16 lk_X7_76 hR.1.1 rfl (Nat.le_of_ble_eq_true rfl) (Nat.le_of_ble_eq_true rfl) (by omega) (c_M_of hR.1 (k := k) (f := 2) (by omega)) (fun h_16 x_16 q_16 => ?_)
  obtain ⟨e_16, rfl⟩ := q_16
  rw [e_16]
  refine ex_aload_n (pc := 19) dX7_seesIt_19 rfl ?_
  refine ex_iload_n (pc := 20) dX7_seesIt_20 rfl ?_
  refine cx_VL1i (pc := 21) dX7_seesIt_21 lk_X7_121 hR.1.1 rfl (Nat.le_of_ble_eq_true rfl) (Nat.le_of_ble_eq_true rfl) (by omega) (c_M_reachOf hR (by omega) (show k < 8 by omega)) (fun h_21 x_21 q_21 => ?_)
  obtain ⟨hs_21, rfl⟩ := q_21
  rw [ec, eσ]
  refine ex_iload_n (pc := 24) dX7_seesIt_24 rfl ?_
  refine cx_VL5i (pc := 25) dX7_seesIt_25 lk_X7_124 (hR.sq hs_21).1.1 rfl (Nat.le_of_ble_eq_true rfl) (Nat.le_of_ble_eq_true rfl) (by omega) (c_M_isSeen (hR.sq hs_21).1 (by omega) hc ht _ _ hσ) (fun h_25 x_25 q_25 => ?_)
  obtain ⟨e_25, rfl⟩ := q_25
  rw [e_25]
  refine ex_zret dX7_seesIt_28 rfl (by first | exact Or.inl rfl | exact Or.inr rfl | exact bI_01 _) ?_
  refine qi_mk ⟨by assumption, ?_⟩
  unfold sgt
  rw [ec, eσ, nI_clamp (by omega)]
set_option maxHeartbeats 4000000 in
set_option maxRecDepth 100000 in
theorem c_R_countingText_n {g : Gl} {d ks : Nat} {h : AH} {b n nt : Nat} {s : Nat → Int32} (hC : CR g h b s n nt) {ft : Nat → Option Nat} {fl : Nat → Int32} (h2 : h[b + 2]? = some (ra g 3 14 ft)) (h3 : h[b + 3]? = some (ia g 3 fl)) {key : Nat} (hk : key < 3) (hf : fl key = oN (-1) (cntS s nt (nI key))) (hd : 1 ≤ d) (hc : cntS s nt (nI key) = none) : Ex g mX2_countingText d 0 ks 0 [some (.ref (g.1 + b)), some (.int (nI key)), none] [] h (qr (fun h' r => h' = h ∧ r = .null)) := by
  have hnt2 := hC.2.2.1.2.1
  refine ex_iload_n (pc := 0) dX2_countingText_0 rfl ?_
  refine ex_iconst (pc := 1) (v := (nI 3)) dX2_countingText_1 (by decide) ?_
  refine cx_SN2i (pc := 2) dX2_countingText_2 lk_X2_171 rfl (Nat.le_of_ble_eq_true rfl) (Nat.le_of_ble_eq_true rfl) (by omega) (c_isBelow _ _) (fun h_2 x_2 q_2 => ?_)
  obtain ⟨e_2, rfl⟩ := q_2
  rw [e_2]
  refine bx_if_eq_f (pc := 5) (tgt := 17) dX2_countingText_5 (by decide) (by rw [bI_t ((inR_iff (by omega)).mpr ⟨key, hk, rfl⟩)]; decide) ?_
  refine ex_aload_n (pc := 8) dX2_countingText_8 rfl ?_
  refine ex_get (pc := 9) dX2_countingText_9 fl_X2_55 hC.1.1 rfl ?_
  refine ex_iload_n (pc := 12) dX2_countingText_12 rfl ?_
  refine ex_ildn (k := key) (pc := 13) dX2_countingText_13 h3 rfl hk (by decide) ?_
  rw [hf, hc]
  refine ex_goto (pc := 14) (tgt := 18) dX2_countingText_14 (by decide) ?_
  refine sx_istore_n (pc := 18) dX2_countingText_18 rfl (by decide) ?_
  show Ex _ _ _ _ _ _ [_, _, _] _ _ _
  refine ex_iload_n (pc := 19) dX2_countingText_19 rfl ?_
  refine ex_aload_n (pc := 20) dX2_countingText_20 rfl ?_
  refine ex_get (pc := 21) dX2_countingText_21 fl_X2_52 hC.1.1 rfl ?_
  refine cx_SN2i (pc := 24) dX2_countingText_24 lk_X2_171 rfl (Nat.le_of_ble_eq_true rfl) (Nat.le_of_ble_eq_true rfl) (by omega) (c_isBelow _ _) (fun h_24 x_24 q_24 => ?_)
  obtain ⟨e_24, rfl⟩ := q_24
  rw [e_24]
  refine bx_if_eq_t (pc := 27) (tgt := 39) dX2_countingText_27 (by decide) (bI_f (fun q => absurd q.1 (by decide))) ?_
  refine ex_null (pc := 39) dX2_countingText_39 ?_
  refine ex_aret dX2_countingText_40 rfl (Or.inl rfl) ?_
  exact qr_mk ⟨rfl, rfl⟩
set_option maxHeartbeats 4000000 in
set_option maxRecDepth 100000 in
theorem c_R_countingText_s {g : Gl} {d ks : Nat} {h : AH} {b n nt : Nat} {s : Nat → Int32} (hC : CR g h b s n nt) {ft : Nat → Option Nat} {fl : Nat → Int32} (h2 : h[b + 2]? = some (ra g 3 14 ft)) (h3 : h[b + 3]? = some (ia g 3 fl)) {key : Nat} (hk : key < 3) (hf : fl key = oN (-1) (cntS s nt (nI key))) (hd : 1 ≤ d) {t q : Nat} (hc : cntS s nt (nI key) = some t) (hq : ft t = some q) : Ex g mX2_countingText d 0 ks 0 [some (.ref (g.1 + b)), some (.int (nI key)), none] [] h (qr (fun h' r => h' = h ∧ r = .ref q)) := by
  have hnt2 := hC.2.2.1.2.1
  obtain ⟨ht, hkey⟩ := lstF_lt hc
  refine ex_iload_n (pc := 0) dX2_countingText_0 rfl ?_
  refine ex_iconst (pc := 1) (v := (nI 3)) dX2_countingText_1 (by decide) ?_
  refine cx_SN2i (pc := 2) dX2_countingText_2 lk_X2_171 rfl (Nat.le_of_ble_eq_true rfl) (Nat.le_of_ble_eq_true rfl) (by omega) (c_isBelow _ _) (fun h_2 x_2 q_2 => ?_)
  obtain ⟨e_2, rfl⟩ := q_2
  rw [e_2]
  refine bx_if_eq_f (pc := 5) (tgt := 17) dX2_countingText_5 (by decide) (by rw [bI_t ((inR_iff (by omega)).mpr ⟨key, hk, rfl⟩)]; decide) ?_
  refine ex_aload_n (pc := 8) dX2_countingText_8 rfl ?_
  refine ex_get (pc := 9) dX2_countingText_9 fl_X2_55 hC.1.1 rfl ?_
  refine ex_iload_n (pc := 12) dX2_countingText_12 rfl ?_
  refine ex_ildn (k := key) (pc := 13) dX2_countingText_13 h3 rfl hk (by decide) ?_
  rw [hf, hc]
  refine ex_goto (pc := 14) (tgt := 18) dX2_countingText_14 (by decide) ?_
  refine sx_istore_n (pc := 18) dX2_countingText_18 rfl (by decide) ?_
  show Ex _ _ _ _ _ _ [_, _, _] _ _ _
  refine ex_iload_n (pc := 19) dX2_countingText_19 rfl ?_
  refine ex_aload_n (pc := 20) dX2_countingText_20 rfl ?_
  refine ex_get (pc := 21) dX2_countingText_21 fl_X2_52 hC.1.1 rfl ?_
  refine cx_SN2i (pc := 24) dX2_countingText_24 lk_X2_171 rfl (Nat.le_of_ble_eq_true rfl) (Nat.le_of_ble_eq_true rfl) (by omega) (c_isBelow _ _) (fun h_24 x_24 q_24 => ?_)
  obtain ⟨e_24, rfl⟩ := q_24
  rw [e_24]
  refine bx_if_eq_f (pc := 27) (tgt := 39) dX2_countingText_27 (by decide) (by rw [bI_t (by rw [hC.2.2.1.1]; exact (inR_iff (by omega)).mpr ⟨t, ht, rfl⟩)]; decide) ?_
  refine ex_aload_n (pc := 30) dX2_countingText_30 rfl ?_
  refine ex_get (pc := 31) dX2_countingText_31 fl_X2_48 hC.1.1 rfl ?_
  refine ex_iload_n (pc := 34) dX2_countingText_34 rfl ?_
  refine ex_aldn (k := t) (v := .ref q) (pc := 35) dX2_countingText_35 rfl h2 rfl (by omega) (by decide) (congrArg va_rf hq) ?_
  refine ex_goto (pc := 36) (tgt := 40) dX2_countingText_36 (by decide) ?_
  refine ex_aret dX2_countingText_40 rfl (Or.inr ⟨_, rfl⟩) ?_
  exact qr_mk ⟨rfl, rfl⟩

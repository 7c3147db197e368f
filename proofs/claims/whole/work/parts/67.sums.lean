/-! whose tiredness told rows are -/
noncomputable def dfF (s : Nat → Int32) (n nt : Nat) (f : Nat → Int32) (p : Nat) : Nat → Int32
  | 0 => nI 0
  | k + 1 => dfF s n nt f p k + (if f k = -1000000005 then nI 0 else offI (f k) (hrsS s nt n k (10 + 4 * p + 3)))
theorem df_c {s f f' : Nat → Int32} {n nt p : Nat} : ∀ k, (∀ j, j < k → f j = f' j) → dfF s n nt f p k = dfF s n nt f' p k := by
  intro k
  induction k with
  | zero => intro _; rfl
  | succ k ih => intro h; rw [dfF, dfF, ih (fun j hj => h j (by omega)), h k (by omega)]
theorem df_no {s f : Nat → Int32} {n nt p k : Nat} (h : f k = -1000000005) : dfF s n nt f p (k + 1) = dfF s n nt f p k := by rw [dfF, if_pos h, add0I]
theorem ab_iI {z : Int} (h1 : -1000000 ≤ z) (h2 : z ≤ 1000000) : ab32 (iI z) = iI z.natAbs := by
  unfold ab32
  have e0 : (0 : Int32).toInt = 0 := by decide
  by_cases h : 0 ≤ iI z
  · rw [if_pos h]
    rw [Int32.le_iff_toInt_le, iI_toInt (by omega) (by omega)] at h
    congr 1; omega
  · rw [if_neg h]
    rw [Int32.le_iff_toInt_le, iI_toInt (by omega) (by omega)] at h
    have e : -(iI z) = iI (-z) := by
      apply Int32.toInt_inj.mp
      rw [Int32.toInt_neg, iI_toInt (by omega) (by omega), iI_toInt (by omega) (by omega)]
      apply Int.bmod_eq_of_le <;> omega
    rw [e]; congr 1; omega
theorem ab_off {v : Int32} {t : Nat} (hv : nbOk v) (hn : ¬ v = -1000000005) (ht : t ≤ 99) : ab32 (nI t - v) = offI v (nI t) := by
  obtain ⟨z, h1, h2, rfl⟩ := hv.resolve_left hn
  rw [iI_nI, iI_sub, ab_iI (by omega) (by omega)]
  unfold offI
  by_cases h : iI z < iI (t : Int)
  · rw [if_pos h, iI_sub]
    rw [iI_lt (by omega) (by omega) (by omega) (by omega)] at h
    congr 1; omega
  · rw [if_neg h, iI_sub]
    rw [iI_lt (by omega) (by omega) (by omega) (by omega)] at h
    congr 1; omega
def bsL (d : Nat → Int32) : Nat → Nat
  | 0 => 0
  | k + 1 => if d (k + 1) < d (bsL d k) then k + 1 else bsL d k
theorem bsL_le {d : Nat → Int32} : ∀ k, bsL d k ≤ k := by
  intro k
  induction k with
  | zero => exact Nat.le_refl _
  | succ k ih => rw [bsL]; split <;> omega
theorem bsL_c {d d' : Nat → Int32} : ∀ k, (∀ j, j ≤ k → d j = d' j) → bsL d k = bsL d' k := by
  intro k
  induction k with
  | zero => intro _; rfl
  | succ k ih =>
    intro h
    have e := ih (fun j hj => h j (by omega))
    have := bsL_le (d := d') k
    rw [bsL, bsL, e, h (k + 1) (Nat.le_refl _), h (bsL d' k) (by omega)]
noncomputable def lkD (s : Nat → Int32) (n nt : Nat) (S : Sht) (i p : Nat) : Int32 := dfF s n nt (S.2.2 i) p (S.2.1 i)
noncomputable def lkA (d : Nat → Int32) (n : Nat) (w : Int32) : Int32 := if n = 0 then -1000000005 else if w = nI 0 then nI (bsL d (n - 1)) else d (bsL d (n - 1))
noncomputable def aLike (s : Nat → Int32) (n nt : Nat) (S : Sht) (sh w : Int32) : Int32 := if bw sh 4 && bw w 2 then (if S.1 (ixI sh) = -1 then -1000000011 else lkA (lkD s n nt S (ixI sh)) n w) else -1000000001
theorem ThB.d39 {g : Gl} {h : AH} {f : Nat → Int32} (a : ThB g h) (e : ∃ f0, h[39]? = some (ia g 8 f0)) : ThB g (h.set 39 (ia g 8 f)) ∧ FrX thX g h (h.set 39 (ia g 8 f)) ∧ (h.set 39 (ia g 8 f))[39]? = some (ia g 8 f) := by
  obtain ⟨f0, e0⟩ := e
  obtain ⟨t1, ⟨x, y, u, v, t2⟩, ⟨ff, t3⟩, -⟩ := a
  exact ⟨⟨t1.fr (S := fun q => q = 39) (by omega) (FrX.st rfl (nscr (by omega))) (fun q hq z => by have := hq.2; omega), ⟨x, y, u, v, gs_ne (by decide) t2⟩, ⟨ff, gs_ne (by decide) t3⟩, f, gs_eq e0⟩, FrX.st ⟨by omega, by omega⟩ (nscr (by omega)), gs_eq e0⟩
theorem th_at {g : Gl} {h h' : AH} {k : Nat} {c : va_E} (f : FrX thX g h h') (hk : k < 25 ∨ 40 ≤ k) (hk2 : k < 90) (e : h[k]? = some c) : h'[k]? = some c := f.at (by unfold thX; omega) (nscr hk2) e
set_option maxHeartbeats 4000000 in
set_option maxRecDepth 100000 in
theorem c_W_sumD_c {g : Gl} {d ks : Nat} {h : AH} {ik wc : Int32} {s : Nat → Int32} {n nt i sz k : Nat} {so : Int32} {cf : Nat → Int32} (hn8 : n ≤ 8) (hi : i < 4) (hsz : sz ≤ 24) (hk : k < sz) (hs1' : h[47 + 2 * i]? = some (shC g (48 + 2 * i) so (nI sz))) (hs2' : h[48 + 2 * i]? = some (ia g 24 cf)) (hkn : ¬ cf k = -1000000005) (hnb : nbOk (cf k)) (htr : TRk (hrsS s nt n k) n) (hd : 2 ≤ d) (K : ∀ (h2 : AH) (f2 : Nat → Int32) (l : Option Value), h2[0]? = some (wtC g ik wc) → CR g h2 25 (hrsS s nt n k) n nt → ThB g h2 → FrX thX g h h2 → h2[39]? = some (ia g 8 f2) → (∀ q, q < n → f2 q = dfF s n nt cf q (k + 1)) → Ex g mX6_sumDifferences d 0 ks 112 [some (.ref (g.1 + 0)), some (.ref (g.1 + (47 + 2 * i))), some (.int (nI (k))), l] [] h2 (qv (fun h' => ThB g h' ∧ FrX thX g h h' ∧ ∃ fd, h'[39]? = some (ia g 8 fd) ∧ ∀ p, p < n → fd p = dfF s n nt cf p sz))) : ∀ (m p : Nat) (h1 : AH), h1[0]? = some (wtC g ik wc) → CR g h1 25 (hrsS s nt n k) n nt → ThB g h1 → FrX thX g h h1 → ∀ (f : Nat → Int32), h1[39]? = some (ia g 8 f) → (∀ q, q < n → f q = if q < p then dfF s n nt cf q (k + 1) else dfF s n nt cf q k) → p + m = n → Ex g mX6_sumDifferences d 0 ks 56 [some (.ref (g.1 + 0)), some (.ref (g.1 + (47 + 2 * i))), some (.int (nI (k))), some (.int (nI p))] [] h1 (qv (fun h' => ThB g h' ∧ FrX thX g h h' ∧ ∃ fd, h'[39]? = some (ia g 8 fd) ∧ ∀ p, p < n → fd p = dfF s n nt cf p sz)) := by
  intro m
  induction m with
  | zero =>
    intro p h1 hW1 hC25 hT1 hF f h39 hf hp
    refine ex_iload_n (pc := 56) dX6_sumDifferences_56 rfl ?_
    refine ex_aload_n (pc := 57) dX6_sumDifferences_57 rfl ?_
    refine ex_get (pc := 58) dX6_sumDifferences_58 fl_X6_23 hW1 rfl ?_
    refine ex_get (pc := 61) dX6_sumDifferences_61 fl_X6_79 hC25.1.1 rfl ?_
    refine bx_icmp_ge_t (pc := 64) (tgt := 112) dX6_sumDifferences_64 (by decide) (by rw [hC25.1.2.1, show p = n by omega]; exact Int32.le_refl _) ?_
    exact K h1 f _ hW1 hC25 hT1 hF h39 (fun q hq => by rw [hf q hq, if_pos (by omega)])
  | succ m ih =>
    intro p h1 hW1 hC25 hT1 hF f h39 hf hp
    have hs1 := th_at hF (by omega) (by omega) hs1'
    have hs2 := th_at hF (by omega) (by omega) hs2'
    obtain ⟨fq, hfq, hfq2⟩ := hC25.1.2.2.2.1
    refine ex_iload_n (pc := 56) dX6_sumDifferences_56 rfl ?_
    refine ex_aload_n (pc := 57) dX6_sumDifferences_57 rfl ?_
    refine ex_get (pc := 58) dX6_sumDifferences_58 fl_X6_23 hW1 rfl ?_
    refine ex_get (pc := 61) dX6_sumDifferences_61 fl_X6_79 hC25.1.1 rfl ?_
    refine bx_icmp_ge_f (pc := 64) (tgt := 112) dX6_sumDifferences_64 (by decide) (by rw [hC25.1.2.1]; exact nI_ge (by omega) (by omega)) ?_
    refine ex_aload_n (pc := 67) dX6_sumDifferences_67 rfl ?_
    refine ex_iload_n (pc := 68) dX6_sumDifferences_68 rfl ?_
    refine cx_VL1i (pc := 69) dX6_sumDifferences_69 lk_X6_300 hs1 rfl (Nat.le_of_ble_eq_true rfl) (Nat.le_of_ble_eq_true rfl) (by omega) (c_S_hasNumber hs1 hs2 hsz (by omega) (show k < 24 by omega)) (fun h_69 x_69 q_69 => ?_)
    obtain ⟨e_69, f_69⟩ := q_69
    rw [e_69, f_69]
    refine bx_if_eq_f (pc := 72) (tgt := 112) dX6_sumDifferences_72 (by decide) (by rw [bI_t ⟨hk, hkn⟩]; decide) ?_
    refine ex_aload_n (pc := 75) dX6_sumDifferences_75 rfl ?_
    refine ex_get (pc := 76) dX6_sumDifferences_76 fl_X6_37 hW1 rfl ?_
    refine ex_iload_n (pc := 79) dX6_sumDifferences_79 rfl ?_
    refine ex_dup2 (pc := 80) dX6_sumDifferences_80 rfl rfl ?_
    refine ex_ildn (k := p) (pc := 81) dX6_sumDifferences_81 h39 rfl (by omega) (by decide) ?_
    refine ex_aload_n (pc := 82) dX6_sumDifferences_82 rfl ?_
    refine ex_get (pc := 83) dX6_sumDifferences_83 fl_X6_23 hW1 rfl ?_
    refine ex_get (pc := 86) dX6_sumDifferences_86 fl_X6_90 hC25.1.1 rfl ?_
    refine ex_iload_n (pc := 89) dX6_sumDifferences_89 rfl ?_
    refine ex_aldn (k := p) (v := .ref (g.1 + (25 + 4 + p))) (pc := 90) dX6_sumDifferences_90 rfl hfq rfl (by omega) (by decide) (congrArg va_rf (hfq2 p (by omega))) ?_
    refine ex_get (pc := 91) dX6_sumDifferences_91 fl_X6_103 (hC25.1.2.2.2.2.1 p (by omega)) rfl ?_
    refine ex_aload_n (pc := 94) dX6_sumDifferences_94 rfl ?_
    refine ex_get (pc := 95) dX6_sumDifferences_95 fl_X6_292 hs1 rfl ?_
    refine ex_iload_n (pc := 98) dX6_sumDifferences_98 rfl ?_
    refine ex_ildn (k := k) (pc := 99) dX6_sumDifferences_99 hs2 rfl (by omega) (by decide) ?_
    refine ex_isub (pc := 100) dX6_sumDifferences_100 ?_
    refine cx_SL1i (pc := 101) dX6_sumDifferences_101 lk_X6_336 rfl (Nat.le_of_ble_eq_true rfl) (Nat.le_of_ble_eq_true rfl) (by omega) (c_abs _) (fun h_101 x_101 q_101 => ?_)
    obtain ⟨e_101, f_101⟩ := q_101
    rw [e_101, f_101]
    refine ex_iadd (pc := 104) dX6_sumDifferences_104 ?_
    refine ex_istn (k := p) (pc := 105) dX6_sumDifferences_105 h39 rfl (by omega) (by decide) ?_
    first | refine sx_inc (pc := 106) dX6_sumDifferences_106 rfl rfl (by decide) ?_ | refine sx_iinc (pc := 106) dX6_sumDifferences_106 rfl rfl (by decide) ?_
    show Ex _ _ _ _ _ _ [_, _, _, _] _ _ _
    refine ex_goto (pc := 109) (tgt := 56) dX6_sumDifferences_109 (by decide) ?_
    obtain ⟨w1, w2, w3⟩ := hT1.d39 (f := (upd f p (f p + ab32 (hrsS s nt n k (10 + 4 * p + 3) - cf k)))) ⟨f, h39⟩
    exact ih (p + 1) _ (th_at w2 (by omega) (by omega) hW1) (hC25.fr (S := fun q => q = 39) (FrX.st rfl (nscr (by omega))) (fun q hq => by unfold rgX at hq; omega)) w1 (hF.tr w2) _ w3 (fun q hq => by
      by_cases e : q = p
      · subst e
        obtain ⟨t, ht, et⟩ := htr q hq
        rw [upd_eq, if_pos (by omega), dfF, if_neg hkn, hf q hq, if_neg (by omega), et, ab_off hnb hkn ht]
      · rw [upd_ne e, hf q hq]
        by_cases e2 : q < p
        · rw [if_pos e2, if_pos (by omega)]
        · rw [if_neg e2, if_neg (by omega)]) (by omega)
set_option maxHeartbeats 4000000 in
set_option maxRecDepth 100000 in
theorem c_W_sumD_n {g : Gl} {d ks : Nat} {h : AH} {ik wc : Int32} {s : Nat → Int32} {n nt i sz k : Nat} {so : Int32} {cf : Nat → Int32} (hn8 : n ≤ 8) (hi : i < 4) (hsz : sz ≤ 24) (hk : k < sz) (hs1' : h[47 + 2 * i]? = some (shC g (48 + 2 * i) so (nI sz))) (hs2' : h[48 + 2 * i]? = some (ia g 24 cf)) (hkn : cf k = -1000000005) (hd : 2 ≤ d) (K : ∀ (h2 : AH) (f2 : Nat → Int32) (l : Option Value), h2[0]? = some (wtC g ik wc) → CR g h2 25 (hrsS s nt n k) n nt → ThB g h2 → FrX thX g h h2 → h2[39]? = some (ia g 8 f2) → (∀ q, q < n → f2 q = dfF s n nt cf q (k + 1)) → Ex g mX6_sumDifferences d 0 ks 112 [some (.ref (g.1 + 0)), some (.ref (g.1 + (47 + 2 * i))), some (.int (nI (k))), l] [] h2 (qv (fun h' => ThB g h' ∧ FrX thX g h h' ∧ ∃ fd, h'[39]? = some (ia g 8 fd) ∧ ∀ p, p < n → fd p = dfF s n nt cf p sz))) (h1 : AH) (hW1 : h1[0]? = some (wtC g ik wc)) (hC25 : CR g h1 25 (hrsS s nt n k) n nt) (hT1 : ThB g h1) (hF : FrX thX g h h1) (f : Nat → Int32) (h39 : h1[39]? = some (ia g 8 f)) (hf : ∀ q, q < n → f q = dfF s n nt cf q k) : Ex g mX6_sumDifferences d 0 ks 56 [some (.ref (g.1 + 0)), some (.ref (g.1 + (47 + 2 * i))), some (.int (nI (k))), some (.int (nI 0))] [] h1 (qv (fun h' => ThB g h' ∧ FrX thX g h h' ∧ ∃ fd, h'[39]? = some (ia g 8 fd) ∧ ∀ p, p < n → fd p = dfF s n nt cf p sz)) := by
  have hs1 := th_at hF (by omega) (by omega) hs1'
  have hs2 := th_at hF (by omega) (by omega) hs2'
  by_cases h0 : 0 < n
  · skip
    refine ex_iload_n (pc := 56) dX6_sumDifferences_56 rfl ?_
    refine ex_aload_n (pc := 57) dX6_sumDifferences_57 rfl ?_
    refine ex_get (pc := 58) dX6_sumDifferences_58 fl_X6_23 hW1 rfl ?_
    refine ex_get (pc := 61) dX6_sumDifferences_61 fl_X6_79 hC25.1.1 rfl ?_
    refine bx_icmp_ge_f (pc := 64) (tgt := 112) dX6_sumDifferences_64 (by decide) (by rw [hC25.1.2.1]; exact nI_ge (by omega) (by omega)) ?_
    refine ex_aload_n (pc := 67) dX6_sumDifferences_67 rfl ?_
    refine ex_iload_n (pc := 68) dX6_sumDifferences_68 rfl ?_
    refine cx_VL1i (pc := 69) dX6_sumDifferences_69 lk_X6_300 hs1 rfl (Nat.le_of_ble_eq_true rfl) (Nat.le_of_ble_eq_true rfl) (by omega) (c_S_hasNumber hs1 hs2 hsz (by omega) (show k < 24 by omega)) (fun h_69 x_69 q_69 => ?_)
    obtain ⟨e_69, f_69⟩ := q_69
    rw [e_69, f_69]
    refine bx_if_eq_t (pc := 72) (tgt := 112) dX6_sumDifferences_72 (by decide) (bI_f (fun q => q.2 hkn)) ?_
    exact K h1 f _ hW1 hC25 hT1 hF h39 (fun q hq => by rw [df_no hkn]; exact hf q hq)
  · skip
    refine ex_iload_n (pc := 56) dX6_sumDifferences_56 rfl ?_
    refine ex_aload_n (pc := 57) dX6_sumDifferences_57 rfl ?_
    refine ex_get (pc := 58) dX6_sumDifferences_58 fl_X6_23 hW1 rfl ?_
    refine ex_get (pc := 61) dX6_sumDifferences_61 fl_X6_79 hC25.1.1 rfl ?_
    refine bx_icmp_ge_t (pc := 64) (tgt := 112) dX6_sumDifferences_64 (by decide) (by rw [hC25.1.2.1]; exact nI_le (by omega) (by omega)) ?_
    exact K h1 f _ hW1 hC25 hT1 hF h39 (fun q hq => absurd hq (by omega))
set_option maxHeartbeats 4000000 in
set_option maxRecDepth 100000 in
theorem c_W_sumD_b {g : Gl} {d ks : Nat} {h : AH} {ik wc : Int32} {s : Nat → Int32} {n nt i sz : Nat} {so : Int32} {cf : Nat → Int32} (hn8 : n ≤ 8) (hok : HOk s n) (htr : TRk s n) (hnb : ∀ j, j < 24 → nbOk (cf j)) (hi : i < 4) (hsz : sz ≤ 24) (hs1' : h[47 + 2 * i]? = some (shC g (48 + 2 * i) so (nI sz))) (hs2' : h[48 + 2 * i]? = some (ia g 24 cf)) (hd : 5 ≤ d) : ∀ (m k : Nat) (l : Option Value) (h1 : AH), h1[0]? = some (wtC g ik wc) → CR g h1 25 (hrsS s nt n (k - 1)) n nt → ThB g h1 → FrX thX g h h1 → ∀ (f : Nat → Int32), h1[39]? = some (ia g 8 f) → (∀ q, q < n → f q = dfF s n nt cf q k) → k + m = sz → Ex g mX6_sumDifferences d 0 ks 34 [some (.ref (g.1 + 0)), some (.ref (g.1 + (47 + 2 * i))), some (.int (nI (k))), l] [] h1 (qv (fun h' => ThB g h' ∧ FrX thX g h h' ∧ ∃ fd, h'[39]? = some (ia g 8 fd) ∧ ∀ p, p < n → fd p = dfF s n nt cf p sz)) := by
  intro m
  induction m with
  | zero =>
    intro k l h1 hW1 hC25 hT1 hF f h39 hf hk
    have hs1 := th_at hF (by omega) (by omega) hs1'
    refine ex_iload_n (pc := 34) dX6_sumDifferences_34 rfl ?_
    refine ex_aload_n (pc := 35) dX6_sumDifferences_35 rfl ?_
    refine ex_get (pc := 36) dX6_sumDifferences_36 fl_X6_285 hs1 rfl ?_
    refine bx_icmp_ge_t (pc := 39) (tgt := 118) dX6_sumDifferences_39 (by decide) (by rw [show k = sz by omega]; exact Int32.le_refl _) ?_
    refine ex_vret dX6_sumDifferences_118 rfl ?_
    obtain rfl : k = sz := by omega
    exact qv_mk ⟨hT1, hF, f, h39, hf⟩
  | succ m ih =>
    intro k l h1 hW1 hC25 hT1 hF f h39 hf hk
    have hs1 := th_at hF (by omega) (by omega) hs1'
    by_cases hk0 : 0 < k
    · skip
      refine ex_iload_n (pc := 34) dX6_sumDifferences_34 rfl ?_
      refine ex_aload_n (pc := 35) dX6_sumDifferences_35 rfl ?_
      refine ex_get (pc := 36) dX6_sumDifferences_36 fl_X6_285 hs1 rfl ?_
      refine bx_icmp_ge_f (pc := 39) (tgt := 118) dX6_sumDifferences_39 (by decide) (nI_ge (by omega) (by omega)) ?_
      refine ex_iload_n (pc := 42) dX6_sumDifferences_42 rfl ?_
      refine bx_if_le_f (pc := 43) (tgt := 54) dX6_sumDifferences_43 (by decide) (nI_nle hk0 (by omega)) ?_
      refine ex_aload_n (pc := 46) dX6_sumDifferences_46 rfl ?_
      refine ex_get (pc := 47) dX6_sumDifferences_47 fl_X6_23 hW1 rfl ?_
      refine ex_iconst (pc := 50) (v := (nI 1)) dX6_sumDifferences_50 (by decide) ?_
      refine cx_VL1v (pc := 51) dX6_sumDifferences_51 lk_X6_212 hC25.1.1 rfl (Nat.le_of_ble_eq_true rfl) (Nat.le_of_ble_eq_true rfl) (by omega) (c_R_passHours hC25 (hrs_ok hok (k - 1)).1 (by omega) _) (fun h_51 q_51 => ?_)
      obtain ⟨r2, u2⟩ := q_51
      rw [show (nI 1).toNatClampNeg = 1 by decide] at r2
      have e1 : hrsS (hrsS s nt n (k - 1)) nt n 1 = hrsS s nt n k := by
        show hrsS s nt n (k - 1 + 1) = _
        rw [Nat.sub_add_cancel hk0]
      rw [e1] at r2
      refine ex_iconst (pc := 54) (v := (nI 0)) dX6_sumDifferences_54 (by decide) ?_
      refine sx_istore_n (pc := 55) dX6_sumDifferences_55 rfl (by decide) ?_
      show Ex _ _ _ _ _ _ [_, _, _, _] _ _ _
      have K : ∀ (h2 : AH) (f2 : Nat → Int32) (l : Option Value), h2[0]? = some (wtC g ik wc) → CR g h2 25 (hrsS s nt n k) n nt → ThB g h2 → FrX thX g h h2 → h2[39]? = some (ia g 8 f2) → (∀ q, q < n → f2 q = dfF s n nt cf q (k + 1)) → Ex g mX6_sumDifferences d 0 ks 112 [some (.ref (g.1 + 0)), some (.ref (g.1 + (47 + 2 * i))), some (.int (nI (k))), l] [] h2 (qv (fun h' => ThB g h' ∧ FrX thX g h h' ∧ ∃ fd, h'[39]? = some (ia g 8 fd) ∧ ∀ p, p < n → fd p = dfF s n nt cf p sz)) := by
        intro h2 f2 l a1 a2 a3 a4 a5 a6
        first | refine sx_inc (pc := 112) dX6_sumDifferences_112 rfl rfl (by decide) ?_ | refine sx_iinc (pc := 112) dX6_sumDifferences_112 rfl rfl (by decide) ?_
        show Ex _ _ _ _ _ _ [_, _, _, _] _ _ _
        refine ex_goto (pc := 115) (tgt := 34) dX6_sumDifferences_115 (by decide) ?_
        exact ih (k + 1) l h2 a1 (by rw [Nat.add_sub_cancel]; exact a2) a3 a4 f2 a5 a6 (by omega)
      by_cases hkn : cf k = -1000000005
      · exact c_W_sumD_n hn8 hi hsz (by omega) hs1' hs2' hkn (by omega) K _ (th_at (rg_th (rm_rg u2)) (by omega) (by omega) hW1) r2 (ThB.mk r2 hT1 (rm_rg u2)) (hF.tr (rg_th (rm_rg u2))) f (u2.at (by unfold rmX; omega) (nscr (by omega)) h39) hf
      · exact c_W_sumD_c hn8 hi hsz (by omega) hs1' hs2' hkn (hnb k (by omega)) (hrs_trd htr k) (by omega) K n 0 _ (th_at (rg_th (rm_rg u2)) (by omega) (by omega) hW1) r2 (ThB.mk r2 hT1 (rm_rg u2)) (hF.tr (rg_th (rm_rg u2))) f (u2.at (by unfold rmX; omega) (nscr (by omega)) h39) (fun q hq => by rw [if_neg (by omega)]; exact hf q hq) (by omega)
    · obtain rfl : k = 0 := by omega
      refine ex_iload_n (pc := 34) dX6_sumDifferences_34 rfl ?_
      refine ex_aload_n (pc := 35) dX6_sumDifferences_35 rfl ?_
      refine ex_get (pc := 36) dX6_sumDifferences_36 fl_X6_285 hs1 rfl ?_
      refine bx_icmp_ge_f (pc := 39) (tgt := 118) dX6_sumDifferences_39 (by decide) (nI_ge (by omega) (by omega)) ?_
      refine ex_iload_n (pc := 42) dX6_sumDifferences_42 rfl ?_
      refine bx_if_le_t (pc := 43) (tgt := 54) dX6_sumDifferences_43 (by decide) (by decide) ?_
      refine ex_iconst (pc := 54) (v := (nI 0)) dX6_sumDifferences_54 (by decide) ?_
      refine sx_istore_n (pc := 55) dX6_sumDifferences_55 rfl (by decide) ?_
      show Ex _ _ _ _ _ _ [_, _, _, _] _ _ _
      have r2 : CR g h1 25 (hrsS s nt n 0) n nt := hC25
      have K : ∀ (h2 : AH) (f2 : Nat → Int32) (l : Option Value), h2[0]? = some (wtC g ik wc) → CR g h2 25 (hrsS s nt n 0) n nt → ThB g h2 → FrX thX g h h2 → h2[39]? = some (ia g 8 f2) → (∀ q, q < n → f2 q = dfF s n nt cf q (0 + 1)) → Ex g mX6_sumDifferences d 0 ks 112 [some (.ref (g.1 + 0)), some (.ref (g.1 + (47 + 2 * i))), some (.int (nI (0))), l] [] h2 (qv (fun h' => ThB g h' ∧ FrX thX g h h' ∧ ∃ fd, h'[39]? = some (ia g 8 fd) ∧ ∀ p, p < n → fd p = dfF s n nt cf p sz)) := by
        intro h2 f2 l a1 a2 a3 a4 a5 a6
        first | refine sx_inc (pc := 112) dX6_sumDifferences_112 rfl rfl (by decide) ?_ | refine sx_iinc (pc := 112) dX6_sumDifferences_112 rfl rfl (by decide) ?_
        show Ex _ _ _ _ _ _ [_, _, _, _] _ _ _
        refine ex_goto (pc := 115) (tgt := 34) dX6_sumDifferences_115 (by decide) ?_
        exact ih (0 + 1) l h2 a1 (by rw [Nat.add_sub_cancel]; exact a2) a3 a4 f2 a5 a6 (by omega)
      by_cases hkn : cf 0 = -1000000005
      · exact c_W_sumD_n hn8 hi hsz (by omega) hs1' hs2' hkn (by omega) K _ hW1 r2 hT1 hF f h39 hf
      · exact c_W_sumD_c hn8 hi hsz (by omega) hs1' hs2' hkn (hnb 0 (by omega)) (hrs_trd htr 0) (by omega) K n 0 _ hW1 r2 hT1 hF f h39 (fun q hq => by rw [if_neg (by omega)]; exact hf q hq) (by omega)
set_option maxHeartbeats 4000000 in
set_option maxRecDepth 100000 in
theorem c_W_sumD {g : Gl} {d ks : Nat} {h : AH} {ik wc : Int32} {s : Nat → Int32} {n nt i sz : Nat} {so : Int32} {cf : Nat → Int32} (hn8 : n ≤ 8) (hok : HOk s n) (htr : TRk s n) (hnb : ∀ j, j < 24 → nbOk (cf j)) (hi : i < 4) (hsz : sz ≤ 24) (hs1' : h[47 + 2 * i]? = some (shC g (48 + 2 * i) so (nI sz))) (hs2' : h[48 + 2 * i]? = some (ia g 24 cf)) (hd : 5 ≤ d) : ∀ (m k : Nat) (h1 : AH), h1[0]? = some (wtC g ik wc) → CR g h1 1 s n nt → ThB g h1 → FrX thX g h h1 → ∀ (f : Nat → Int32), h1[39]? = some (ia g 8 f) → (∀ q, q < k → f q = dfF s n nt cf q 0) → k + m = 8 → Ex g mX6_sumDifferences d 0 ks 2 [some (.ref (g.1 + 0)), some (.ref (g.1 + (47 + 2 * i))), some (.int (nI (k))), none] [] h1 (qv (fun h' => ThB g h' ∧ FrX thX g h h' ∧ ∃ fd, h'[39]? = some (ia g 8 fd) ∧ ∀ p, p < n → fd p = dfF s n nt cf p sz)) := by
  intro m
  induction m with
  | zero =>
    intro k h1 hW1 hC1 hT1 hF f h39 hf hk
    obtain ⟨s0, w00, h25⟩ := hT1.1.1
    refine ex_iload_n (pc := 2) dX6_sumDifferences_2 rfl ?_
    refine ex_bipush (pc := 3) (v := (nI 8)) dX6_sumDifferences_3 (by decide) ?_
    refine bx_icmp_ge_t (pc := 5) (tgt := 21) dX6_sumDifferences_5 (by decide) (by rw [show k = 8 by omega]; exact Int32.le_refl _) ?_
    refine ex_aload_n (pc := 21) dX6_sumDifferences_21 rfl ?_
    refine ex_get (pc := 22) dX6_sumDifferences_22 fl_X6_23 hW1 rfl ?_
    refine ex_aload_n (pc := 25) dX6_sumDifferences_25 rfl ?_
    refine ex_get (pc := 26) dX6_sumDifferences_26 fl_X6_10 hW1 rfl ?_
    refine cx_VL1v (pc := 29) dX6_sumDifferences_29 lk_X6_219 h25 rfl (Nat.le_of_ble_eq_true rfl) (Nat.le_of_ble_eq_true rfl) (by omega) (c_R_becomeAs (b := 25) (o := 1) (by omega) (Or.inr (by omega)) (by omega) hC1 hT1.1) (fun h_29 q_29 => ?_)
    obtain ⟨r1, u1⟩ := q_29
    refine ex_iconst (pc := 32) (v := (nI 0)) dX6_sumDifferences_32 (by decide) ?_
    refine sx_istore_n (pc := 33) dX6_sumDifferences_33 rfl (by decide) ?_
    show Ex _ _ _ _ _ _ [_, _, _, _] _ _ _
    exact c_W_sumD_b hn8 hok htr hnb hi hsz hs1' hs2' hd sz 0 _ _ (rg_0 u1 hW1) r1 (ThB.mk r1 hT1 u1) (hF.tr (rg_th u1)) f (u1.at (by unfold rgX; omega) (nscr (by omega)) h39) (fun q hq => hf q (by omega)) (by omega)
  | succ m ih =>
    intro k h1 hW1 hC1 hT1 hF f h39 hf hk
    refine ex_iload_n (pc := 2) dX6_sumDifferences_2 rfl ?_
    refine ex_bipush (pc := 3) (v := (nI 8)) dX6_sumDifferences_3 (by decide) ?_
    refine bx_icmp_ge_f (pc := 5) (tgt := 21) dX6_sumDifferences_5 (by decide) (nI_ge (by omega) (by omega)) ?_
    refine ex_aload_n (pc := 8) dX6_sumDifferences_8 rfl ?_
    refine ex_get (pc := 9) dX6_sumDifferences_9 fl_X6_37 hW1 rfl ?_
    refine ex_iload_n (pc := 12) dX6_sumDifferences_12 rfl ?_
    refine ex_iconst (pc := 13) (v := (nI 0)) dX6_sumDifferences_13 (by decide) ?_
    refine ex_istn (k := k) (pc := 14) dX6_sumDifferences_14 h39 rfl (by omega) (by decide) ?_
    first | refine sx_inc (pc := 15) dX6_sumDifferences_15 rfl rfl (by decide) ?_ | refine sx_iinc (pc := 15) dX6_sumDifferences_15 rfl rfl (by decide) ?_
    show Ex _ _ _ _ _ _ [_, _, _, _] _ _ _
    refine ex_goto (pc := 18) (tgt := 2) dX6_sumDifferences_18 (by decide) ?_
    obtain ⟨w1, w2, w3⟩ := hT1.d39 (f := upd f k (nI 0)) ⟨f, h39⟩
    exact ih (k + 1) _ (th_at w2 (by omega) (by omega) hW1) (hC1.thx w2) w1 (hF.tr w2) _ w3 (fun q hq => by
      by_cases e : q = k
      · subst e; rw [upd_eq]; rfl
      · rw [upd_ne e]; exact hf q (by omega)) (by omega)
set_option maxHeartbeats 4000000 in
set_option maxRecDepth 100000 in
theorem c_W_sumDifferences {g : Gl} {d ks : Nat} {h : AH} {ik wc : Int32} {s : Nat → Int32} {n nt : Nat} (hW : h[0]? = some (wtC g ik wc)) (hC : CR g h 1 s n nt) (hT : ThB g h) {i sz : Nat} {so : Int32} {cf : Nat → Int32} (hok : HOk s n) (htr : TRk s n) (hnb : ∀ j, j < 24 → nbOk (cf j)) (hi : i < 4) (hsz : sz ≤ 24) (hs1 : h[47 + 2 * i]? = some (shC g (48 + 2 * i) so (nI sz))) (hs2 : h[48 + 2 * i]? = some (ia g 24 cf)) (hd : 5 ≤ d) : Ex g mX6_sumDifferences d 0 ks 0 [some (.ref (g.1 + 0)), some (.ref (g.1 + (47 + 2 * i))), none, none] [] h (qv (fun h' => ThB g h' ∧ FrX thX g h h' ∧ ∃ fd, h'[39]? = some (ia g 8 fd) ∧ ∀ p, p < n → fd p = dfF s n nt cf p sz)) := by
  obtain ⟨f, h39⟩ := hT.2.2.2
  refine ex_iconst (pc := 0) (v := (nI 0)) dX6_sumDifferences_0 (by decide) ?_
  refine sx_istore_n (pc := 1) dX6_sumDifferences_1 rfl (by decide) ?_
  show Ex _ _ _ _ _ _ [_, _, _, _] _ _ _
  exact c_W_sumD hC.2.1.2.1 hok htr hnb hi hsz hs1 hs2 hd 8 0 h hW hC hT FrX.rf f h39 (fun q hq => absurd hq (by omega)) (by omega)

/-! slots: as both sides keep them; something is laid there: the class -/
abbrev Slt : Type := Nat × Int32 × Int32 × Nat × (Nat → Int32)
abbrev slO (g : Gl) (i : Nat) (ho nu : Int32) : va_E := ob 4 [.int ho, .ref (g.1 + (56 + 4 * i)), .ref (g.1 + (57 + 4 * i)), .int nu]
def SlC (g : Gl) (h : AH) (i : Nat) (x : Slt) : Prop := ∃ nu kd ce si ti so sz cf, h[55 + 4 * i]? = some (slO g i (nI x.1) nu) ∧ h[56 + 4 * i]? = some (po kd ce si ti) ∧ h[57 + 4 * i]? = some (shC g (58 + 4 * i) so sz) ∧ h[58 + 4 * i]? = some (ia g 24 cf) ∧ (x.1 = 1 → kd = x.2.1 ∧ wrt kd ti = x.2.2.1) ∧ (x.1 = 2 → sz = nI x.2.2.2.1 ∧ ∀ j, j < 24 → cf j = x.2.2.2.2 j) ∧ (x.1 = 3 → nu = x.2.1)
def SltC (g : Gl) (h : AH) (L : Nat → Slt) : Prop := (∃ fs, h[45]? = some (ra g 5 5 fs) ∧ ∀ k, k < 5 → fs k = some (g.1 + (55 + 4 * k))) ∧ ∀ k, k < 5 → SlC g h k (L k)
def SltM (g : Gl) (h : AH) (L : Nat → Slt) : Prop := ∃ f82 f83 f84 f85 f86 : Nat → Int32, (h[82]? = some (ia g 5 f82) ∧ h[83]? = some (ia g 5 f83) ∧ h[84]? = some (ia g 5 f84) ∧ h[85]? = some (ia g 5 f85) ∧ h[86]? = some (ia g 120 f86)) ∧ ∀ k, k < 5 → f82 k = nI (L k).1 ∧ ((L k).1 = 1 ∨ (L k).1 = 3 → f83 k = (L k).2.1) ∧ ((L k).1 = 1 → f84 k = (L k).2.2.1) ∧ ((L k).1 = 2 → f85 k = nI (L k).2.2.2.1 ∧ ∀ j, j < 24 → f86 (24 * k + j) = (L k).2.2.2.2 j)
def LOk (L : Nat → Slt) : Prop := ∀ k, k < 5 → (L k).1 < 4 ∧ ((L k).1 = 1 → ∃ κ, κ < 6 ∧ (L k).2.1 = nI κ) ∧ (L k).2.2.2.1 ≤ 24
def slX (k : Nat) : Prop := 55 ≤ k ∧ k < 75
def sl1 (i k : Nat) : Prop := 55 + 4 * i ≤ k ∧ k < 59 + 4 * i
def lmX (k : Nat) : Prop := 82 ≤ k ∧ k < 87
theorem SlC.fr {g : Gl} {h h' : AH} {S : Nat → Prop} {i : Nat} {x : Slt} (hi : i < 5) (a : SlC g h i x) (f : FrX S g h h') (hS : ∀ k, sl1 i k → ¬ S k) : SlC g h' i x := by
  obtain ⟨nu, kd, ce, si, ti, so, sz, cf, a1, a2, a3, a4, a5⟩ := a
  exact ⟨nu, kd, ce, si, ti, so, sz, cf, f.at (hS _ ⟨by omega, by omega⟩) (nscr (by omega)) a1, f.at (hS _ ⟨by omega, by omega⟩) (nscr (by omega)) a2, f.at (hS _ ⟨by omega, by omega⟩) (nscr (by omega)) a3, f.at (hS _ ⟨by omega, by omega⟩) (nscr (by omega)) a4, a5⟩
theorem SltC.set {g : Gl} {h h' : AH} {L : Nat → Slt} {i : Nat} {x : Slt} (a : SltC g h L) (hi : i < 5) (f : FrX (sl1 i) g h h') (hx : SlC g h' i x) : SltC g h' (setF L i x) ∧ FrX slX g h h' := by
  obtain ⟨⟨fs, a1, a2⟩, a3⟩ := a
  refine ⟨⟨⟨fs, f.at (by unfold sl1; omega) (nscr (by omega)) a1, a2⟩, fun k hk => ?_⟩, f.mono (fun k hk => by unfold sl1 at hk; unfold slX; omega)⟩
  by_cases e : k = i
  · subst e; rw [sF_eq]; exact hx
  · rw [sF_ne e]; exact (a3 k hk).fr hk f (fun q hq z => by unfold sl1 at hq z; omega)
def newSl (s : Nat → Int32) (S : Sht) (t : Nat) (k : Int32) : Slt := if t = 1 then (1, s (10 + 4 * ixI k + 0), wrt (s (10 + 4 * ixI k + 0)) (s (10 + 4 * ixI k + 3)), 0, fun _ => nI 0) else if t = 2 then (2, nI 0, nI 0, S.2.1 (ixI k), S.2.2 (ixI k)) else if t = 3 then (3, k, nI 0, 0, fun _ => nI 0) else (0, nI 0, nI 0, 0, fun _ => nI 0)
def gdL (n : Nat) (t k : Int32) : Bool := decide (t = nI 0) || (decide (t = nI 3) || (decide (t = nI 1) && bw k n || decide (t = nI 2) && bw k 4))
def aLay (n : Nat) (S : Sht) (L : Nat → Slt) (q t k : Int32) : Int32 := if bw q 5 && gdL n t k then (if t = nI 2 ∧ S.1 (ixI k) = -1 then -1000000011 else nI (L (ixI q)).1) else -1000000001
def nLay (s : Nat → Int32) (n : Nat) (S : Sht) (L : Nat → Slt) (q t k : Int32) : Nat → Slt := if bw q 5 && gdL n t k then (if t = nI 2 ∧ S.1 (ixI k) = -1 then L else setF L (ixI q) (newSl s S (ixI t) k)) else L
set_option maxHeartbeats 4000000 in
set_option maxRecDepth 100000 in
theorem c_S_becomeAs {g : Gl} {d ks : Nat} {h : AH} {q p q2 p2 : Nat} {so sz so2 sz2 : Int32} {f f2 : Nat → Int32} (hqp : ¬ q = p) (hq : q < 90) (hp90 : p < 90) (hqq : ¬ q = q2) (hqp2 : ¬ q = p2) (he : h[q]? = some (shC g p so sz)) (hp : h[p]? = some (ia g 24 f)) (he2 : h[q2]? = some (shC g p2 so2 sz2)) (hp2 : h[p2]? = some (ia g 24 f2)) (hd : 1 ≤ d) : Ex g mX3_becomeAs d 0 ks 0 [some (.ref (g.1 + q)), some (.ref (g.1 + q2))] [] h (qv (fun h' => h'[q]? = some (shC g p so2 sz2) ∧ (∃ f', h'[p]? = some (ia g 24 f') ∧ ∀ j, j < 24 → f' j = f2 j) ∧ FrX (pr2 q p) g h h')) := by
  refine ex_aload_n (pc := 0) dX3_becomeAs_0 rfl ?_
  refine ex_aload_n (pc := 1) dX3_becomeAs_1 rfl ?_
  refine ex_get (pc := 2) dX3_becomeAs_2 fl_X3_9 he2 rfl ?_
  refine ex_put (pc := 5) dX3_becomeAs_5 fp_X3_9 he (Nat.le_of_ble_eq_true rfl) rfl rfl ?_
  refine ex_aload_n (pc := 8) dX3_becomeAs_8 rfl ?_
  refine ex_aload_n (pc := 9) dX3_becomeAs_9 rfl ?_
  refine ex_get (pc := 10) dX3_becomeAs_10 fl_X3_15 (gs_ne hqq he2) rfl ?_
  refine ex_put (pc := 13) dX3_becomeAs_13 fp_X3_15 (gs_eq he) (Nat.le_of_ble_eq_true rfl) rfl rfl ?_
  refine ex_aload_n (pc := 16) dX3_becomeAs_16 rfl ?_
  refine ex_get (pc := 17) dX3_becomeAs_17 fl_X3_18 (gs_ne hqq (gs_ne hqq he2)) rfl ?_
  refine ex_iconst (pc := 20) (v := (nI 0)) dX3_becomeAs_20 (by decide) ?_
  refine ex_aload_n (pc := 21) dX3_becomeAs_21 rfl ?_
  refine ex_get (pc := 22) dX3_becomeAs_22 fl_X3_18 (gs_eq (gs_eq he)) rfl ?_
  refine ex_iconst (pc := 25) (v := (nI 0)) dX3_becomeAs_25 (by decide) ?_
  refine ex_bipush (pc := 26) (v := (nI 24)) dX3_becomeAs_26 (by decide) ?_
  refine ex_copy (pc := 28) dX3_becomeAs_28 lk_X3_22 gw_cn gw_cs gw_ci (gs_ne hqp2 (gs_ne hqp2 hp2)) (gs_ne hqp (gs_ne hqp hp)) (by decide) (by decide) (by decide) (by decide) (by decide) (by decide) (by omega) nf_ok ?_
  refine ex_vret dX3_becomeAs_31 rfl ?_
  refine qv_mk ⟨gs_ne (fun z => hqp z.symm) (gs_eq (gs_eq he)), ⟨_, gs_eq (gs_ne hqp (gs_ne hqp hp)), fun j hj => ?_⟩, ?_⟩
  · unfold va_cpy
    rw [if_pos ⟨by show (nI 0).toNatClampNeg ≤ j; rw [show (nI 0).toNatClampNeg = 0 by decide]; omega, by rw [show (nI 0).toNatClampNeg = 0 by decide, show (nI 24).toNatClampNeg = 24 by decide]; omega⟩, show (nI 0).toNatClampNeg = 0 by decide]
    congr 1
    omega
  · exact FrX.tr (FrX.tr (FrX.st (Or.inl rfl) (nscr (by omega))) (FrX.st (Or.inl rfl) (nscr (by omega)))) (FrX.st (Or.inr rfl) (nscr (by omega)))
theorem gd_neg {n : Nat} {t k : Int32} (h : t < 0) : gdL n t k = false := by
  have q : ∀ j, j < 4 → ¬ t = nI j := fun j hj e => by rw [e] at h; exact absurd h (nI_pos (by omega))
  simp [gdL, q 0 (by omega), q 1 (by omega), q 2 (by omega), q 3 (by omega)]
theorem gd_big {n : Nat} {t k : Int32} (h : ¬ t ≤ nI 3) : gdL n t k = false := by
  have q : ∀ j, j < 4 → ¬ t = nI j := fun j hj e => by rw [e] at h; exact h (nI_le (by omega) (by omega))
  simp [gdL, q 0 (by omega), q 1 (by omega), q 2 (by omega), q 3 (by omega)]
set_option maxHeartbeats 4000000 in
set_option maxRecDepth 100000 in
theorem c_W_lay {g : Gl} {d ks : Nat} {h : AH} {ik wc : Int32} {s : Nat → Int32} {n nt : Nat} (hW : h[0]? = some (wtC g ik wc)) (hC : CR g h 1 s n nt) {S : Sht} (hS : ShtC g h S) (hO : SOk S) {L : Nat → Slt} (hL : SltC g h L) (hd : 2 ≤ d) (q t k : Int32) : Ex g mX6_lay d 0 ks 0 [some (.ref (g.1 + 0)), some (.int q), some (.int t), some (.int k), none, none] [] h (qi (fun h' r => (SltC g h' (nLay s n S L q t k) ∧ FrX slX g h h') ∧ r = aLay n S L q t k)) := by
  have hR := hC.1
  have hP := hC.2.1
  have hn8 := hP.2.1
  have hN := hR.2.1
  obtain ⟨fp, hfp, hfp2⟩ := hR.2.2.2.1
  obtain ⟨⟨fs, hfs, hfs2⟩, hsk⟩ := hS
  have hL0 := hL
  obtain ⟨⟨fl, hls, hls2⟩, hlk⟩ := hL
  refine ex_iload_n (pc := 0) dX6_lay_0 rfl ?_
  refine ex_iconst (pc := 1) (v := (nI 5)) dX6_lay_1 (by decide) ?_
  refine cx_SL2i (pc := 2) dX6_lay_2 lk_X6_69 rfl (Nat.le_of_ble_eq_true rfl) (Nat.le_of_ble_eq_true rfl) (by omega) (c_ib _ _) (fun h_2 x_2 q_2 => ?_)
  obtain ⟨e_2, f_2⟩ := q_2
  rw [e_2, f_2]
  refine ex_if_eq (pc := 5) (tgt := 17) dX6_lay_5 (by decide) (fun c_5 => ?_) (fun c_5 => ?_)
  · skip
    have b_5 := bF c_5
    refine ex_ldc (pc := 17) dX6_lay_17 cn_X6_73 ?_
    refine ex_ret dX6_lay_19 rfl ?_
    have e1 : nLay s n S L q t k = L := by simp [nLay, gdL, b_5]
    rw [e1]
    refine qi_mk ⟨⟨hL0, FrX.rf⟩, ?_⟩
    simp [aLay, gdL, b_5]
  · skip
    have b_5 := bT c_5
    refine ex_iload_n (pc := 8) dX6_lay_8 rfl ?_
    refine ex_if_lt (pc := 9) (tgt := 17) dX6_lay_9 (by decide) (fun c_9 => ?_) (fun c_9 => ?_)
    · skip
      refine ex_ldc (pc := 17) dX6_lay_17 cn_X6_73 ?_
      refine ex_ret dX6_lay_19 rfl ?_
      have k1 : gdL n t k = false := gd_neg c_9
      have e1 : nLay s n S L q t k = L := by simp [nLay, k1]
      rw [e1]
      refine qi_mk ⟨⟨hL0, FrX.rf⟩, ?_⟩
      simp [aLay, k1]
    · skip
      refine ex_iload_n (pc := 12) dX6_lay_12 rfl ?_
      refine ex_iconst (pc := 13) (v := (nI 3)) dX6_lay_13 (by decide) ?_
      refine ex_icmp_le (pc := 14) (tgt := 20) dX6_lay_14 (by decide) (fun c_14 => ?_) (fun c_14 => ?_)
      · skip
        obtain ⟨i, hi, rfl⟩ := bw_ex b_5
        have i_i : ixI (nI i) = i := iK (by omega)
        obtain ⟨nu, kd, ce, si, ti, so, sz, cf2, a1, a2, a3, a4, a5, a6, a7⟩ := hlk i hi
        obtain ⟨t0, ht0, rfl⟩ := nI_of c_9
        have ht4 : t0 ≤ 3 := (nI_leI ht0 (by omega)).mp c_14
        rcases (show t0 = 0 ∨ t0 = 1 ∨ t0 = 2 ∨ t0 = 3 by omega) with rfl | rfl | rfl | rfl
        · skip
          refine ex_iload_n (pc := 20) dX6_lay_20 rfl ?_
          refine ex_iconst (pc := 21) (v := (nI 1)) dX6_lay_21 (by decide) ?_
          refine bx_icmp_ne_t (pc := 22) (tgt := 33) dX6_lay_22 (by decide) (by decide) ?_
          refine ex_iload_n (pc := 33) dX6_lay_33 rfl ?_
          refine ex_iconst (pc := 34) (v := (nI 2)) dX6_lay_34 (by decide) ?_
          refine bx_icmp_ne_t (pc := 35) (tgt := 49) dX6_lay_35 (by decide) (by decide) ?_
          refine ex_iload_n (pc := 49) dX6_lay_49 rfl ?_
          refine ex_iconst (pc := 50) (v := (nI 2)) dX6_lay_50 (by decide) ?_
          refine bx_icmp_ne_t (pc := 51) (tgt := 69) dX6_lay_51 (by decide) (by decide) ?_
          refine ex_aload_n (pc := 69) dX6_lay_69 rfl ?_
          refine ex_get (pc := 70) dX6_lay_70 fl_X6_56 hW rfl ?_
          refine ex_iload_n (pc := 73) dX6_lay_73 rfl ?_
          refine ex_aldn (k := i) (v := .ref (g.1 + (55 + 4 * i))) (pc := 74) dX6_lay_74 rfl hls rfl (by omega) (by decide) (congrArg va_rf (hls2 i (by omega))) ?_
          refine sx_astore (pc := 75) dX6_lay_75 rfl (by decide) ?_
          show Ex _ _ _ _ _ _ [_, _, _, _, _, _] _ _ _
          refine ex_aload (pc := 77) dX6_lay_77 rfl ?_
          refine ex_get (pc := 79) dX6_lay_79 fl_X6_312 a1 rfl ?_
          refine sx_istore (pc := 82) dX6_lay_82 rfl (by decide) ?_
          show Ex _ _ _ _ _ _ [_, _, _, _, _, _] _ _ _
          refine ex_aload (pc := 84) dX6_lay_84 rfl ?_
          refine ex_iload_n (pc := 86) dX6_lay_86 rfl ?_
          refine ex_put (pc := 87) dX6_lay_87 fp_X6_312 a1 (Nat.le_of_ble_eq_true rfl) rfl rfl ?_
          refine ex_iload_n (pc := 90) dX6_lay_90 rfl ?_
          refine ex_iconst (pc := 91) (v := (nI 1)) dX6_lay_91 (by decide) ?_
          refine bx_icmp_ne_t (pc := 92) (tgt := 115) dX6_lay_92 (by decide) (by decide) ?_
          refine ex_iload_n (pc := 115) dX6_lay_115 rfl ?_
          refine ex_iconst (pc := 116) (v := (nI 2)) dX6_lay_116 (by decide) ?_
          refine bx_icmp_ne_t (pc := 117) (tgt := 137) dX6_lay_117 (by decide) (by decide) ?_
          refine ex_iload_n (pc := 137) dX6_lay_137 rfl ?_
          refine ex_iconst (pc := 138) (v := (nI 3)) dX6_lay_138 (by decide) ?_
          refine bx_icmp_ne_t (pc := 139) (tgt := 148) dX6_lay_139 (by decide) (by decide) ?_
          refine ex_iload (pc := 148) dX6_lay_148 rfl ?_
          refine ex_ret dX6_lay_150 rfl ?_
          have i_t : ixI (nI 0) = 0 := by decide
          have e1 : nLay s n S L (nI i) (nI 0) k = setF L i (newSl s S 0 k) := by
            have gd : gdL n (nI 0) k = true := by simp [gdL, show ¬ nI 0 = nI 1 by decide, show ¬ nI 0 = nI 2 by decide, show ¬ nI 0 = nI 3 by decide]
            unfold nLay
            rw [b_5, gd, i_i, i_t]
            simp only [show ¬ nI 0 = nI 2 by decide, false_and, Bool.and_self, ↓reduceIte]
          rw [e1]
          refine qi_mk ⟨hL0.set hi (FrX.st ⟨by omega, by omega⟩ (nscr (by omega))) ⟨nu, kd, ce, si, ti, so, sz, cf2, gs_eq a1, gs_ne (by omega) a2, gs_ne (by omega) a3, gs_ne (by omega) a4, fun z => absurd z (show ¬ (0 : Nat) = 1 by decide), fun z => absurd z (show ¬ (0 : Nat) = 2 by decide), fun z => absurd z (show ¬ (0 : Nat) = 3 by decide)⟩, ?_⟩
          have gd : gdL n (nI 0) k = true := by simp [gdL, show ¬ nI 0 = nI 1 by decide, show ¬ nI 0 = nI 2 by decide, show ¬ nI 0 = nI 3 by decide]
          unfold aLay
          rw [b_5, gd, i_i]
          simp only [show ¬ nI 0 = nI 2 by decide, false_and, Bool.and_self, ↓reduceIte]
        · skip
          refine ex_iload_n (pc := 20) dX6_lay_20 rfl ?_
          refine ex_iconst (pc := 21) (v := (nI 1)) dX6_lay_21 (by decide) ?_
          refine bx_icmp_ne_f (pc := 22) (tgt := 33) dX6_lay_22 (by decide) (rfl) ?_
          refine ex_aload_n (pc := 25) dX6_lay_25 rfl ?_
          refine ex_iload_n (pc := 26) dX6_lay_26 rfl ?_
          refine cx_VL1i (pc := 27) dX6_lay_27 lk_X6_87 hW rfl (Nat.le_of_ble_eq_true rfl) (Nat.le_of_ble_eq_true rfl) (by omega) (c_W_isPost hW hR (by omega) _) (fun h_27 x_27 q_27 => ?_)
          obtain ⟨e_27, f_27⟩ := q_27
          rw [e_27, f_27]
          refine ex_if_eq (pc := 30) (tgt := 46) dX6_lay_30 (by decide) (fun c_30 => ?_) (fun c_30 => ?_)
          · skip
            have b_30 := bF c_30
            refine ex_ldc (pc := 46) dX6_lay_46 cn_X6_73 ?_
            refine ex_ret dX6_lay_48 rfl ?_
            have e1 : nLay s n S L (nI i) (nI 1) k = L := by simp [nLay, gdL, i_i, b_5, show ¬ nI 1 = nI 0 by decide, show ¬ nI 1 = nI 2 by decide, show ¬ nI 1 = nI 3 by decide, b_30]
            rw [e1]
            refine qi_mk ⟨⟨hL0, FrX.rf⟩, ?_⟩
            simp [aLay, gdL, i_i, b_5, show ¬ nI 1 = nI 0 by decide, show ¬ nI 1 = nI 2 by decide, show ¬ nI 1 = nI 3 by decide, b_30]
          · skip
            have b_30 := bT c_30
            obtain ⟨p0, hp0, rfl⟩ := bw_ex b_30
            have i_p : ixI (nI p0) = p0 := iK (by omega)
            refine ex_iload_n (pc := 33) dX6_lay_33 rfl ?_
            refine ex_iconst (pc := 34) (v := (nI 2)) dX6_lay_34 (by decide) ?_
            refine bx_icmp_ne_t (pc := 35) (tgt := 49) dX6_lay_35 (by decide) (by decide) ?_
            refine ex_iload_n (pc := 49) dX6_lay_49 rfl ?_
            refine ex_iconst (pc := 50) (v := (nI 2)) dX6_lay_50 (by decide) ?_
            refine bx_icmp_ne_t (pc := 51) (tgt := 69) dX6_lay_51 (by decide) (by decide) ?_
            refine ex_aload_n (pc := 69) dX6_lay_69 rfl ?_
            refine ex_get (pc := 70) dX6_lay_70 fl_X6_56 hW rfl ?_
            refine ex_iload_n (pc := 73) dX6_lay_73 rfl ?_
            refine ex_aldn (k := i) (v := .ref (g.1 + (55 + 4 * i))) (pc := 74) dX6_lay_74 rfl hls rfl (by omega) (by decide) (congrArg va_rf (hls2 i (by omega))) ?_
            refine sx_astore (pc := 75) dX6_lay_75 rfl (by decide) ?_
            show Ex _ _ _ _ _ _ [_, _, _, _, _, _] _ _ _
            refine ex_aload (pc := 77) dX6_lay_77 rfl ?_
            refine ex_get (pc := 79) dX6_lay_79 fl_X6_312 a1 rfl ?_
            refine sx_istore (pc := 82) dX6_lay_82 rfl (by decide) ?_
            show Ex _ _ _ _ _ _ [_, _, _, _, _, _] _ _ _
            refine ex_aload (pc := 84) dX6_lay_84 rfl ?_
            refine ex_iload_n (pc := 86) dX6_lay_86 rfl ?_
            refine ex_put (pc := 87) dX6_lay_87 fp_X6_312 a1 (Nat.le_of_ble_eq_true rfl) rfl rfl ?_
            refine ex_iload_n (pc := 90) dX6_lay_90 rfl ?_
            refine ex_iconst (pc := 91) (v := (nI 1)) dX6_lay_91 (by decide) ?_
            refine bx_icmp_ne_f (pc := 92) (tgt := 115) dX6_lay_92 (by decide) (rfl) ?_
            refine ex_aload (pc := 95) dX6_lay_95 rfl ?_
            refine ex_get (pc := 97) dX6_lay_97 fl_X6_315 (gs_eq a1) rfl ?_
            refine ex_aload_n (pc := 100) dX6_lay_100 rfl ?_
            refine ex_get (pc := 101) dX6_lay_101 fl_X6_10 (gs_ne (by omega) hW) rfl ?_
            refine ex_get (pc := 104) dX6_lay_104 fl_X6_90 (gs_ne (by omega) hR.1) rfl ?_
            refine ex_iload_n (pc := 107) dX6_lay_107 rfl ?_
            refine ex_aldn (k := p0) (v := .ref (g.1 + (1 + 4 + p0))) (pc := 108) dX6_lay_108 rfl (gs_ne (by omega) hfp) rfl (by omega) (by decide) (congrArg va_rf (hfp2 p0 (by omega))) ?_
            refine cx_VL1v (pc := 109) dX6_lay_109 lk_X6_318 (gs_ne (by omega) a2) rfl (Nat.le_of_ble_eq_true rfl) (Nat.le_of_ble_eq_true rfl) (by omega) (c_P_becomeAs (gs_ne (by omega) a2) (gs_ne (by omega) (hR.2.2.2.2.1 p0 hp0)) (by omega)) (fun h_109 q_109 => ?_)
            rw [q_109]
            refine ex_goto (pc := 112) (tgt := 148) dX6_lay_112 (by decide) ?_
            refine ex_iload (pc := 148) dX6_lay_148 rfl ?_
            refine ex_ret dX6_lay_150 rfl ?_
            have i_t : ixI (nI 1) = 1 := by decide
            have e1 : nLay s n S L (nI i) (nI 1) (nI p0) = setF L i (newSl s S 1 (nI p0)) := by
              have gd : gdL n (nI 1) (nI p0) = true := by simp [gdL, show ¬ nI 1 = nI 0 by decide, show ¬ nI 1 = nI 2 by decide, show ¬ nI 1 = nI 3 by decide, b_30]
              unfold nLay
              rw [b_5, gd, i_i, i_t]
              simp only [show ¬ nI 1 = nI 2 by decide, false_and, Bool.and_self, ↓reduceIte]
            rw [e1]
            refine qi_mk ⟨hL0.set hi (FrX.tr (FrX.st ⟨by omega, by omega⟩ (nscr (by omega))) (FrX.st ⟨by omega, by omega⟩ (nscr (by omega)))) ⟨nu, _, _, _, _, so, sz, cf2, gs_ne (by omega) (gs_eq a1), gs_eq (gs_ne (by omega) a2), gs_ne (by omega) (gs_ne (by omega) a3), gs_ne (by omega) (gs_ne (by omega) a4), fun _ => by unfold newSl; rw [if_pos rfl, i_p]; exact ⟨rfl, rfl⟩, fun z => absurd z (show ¬ (1 : Nat) = 2 by decide), fun z => absurd z (show ¬ (1 : Nat) = 3 by decide)⟩, ?_⟩
            have gd : gdL n (nI 1) (nI p0) = true := by simp [gdL, show ¬ nI 1 = nI 0 by decide, show ¬ nI 1 = nI 2 by decide, show ¬ nI 1 = nI 3 by decide, b_30]
            unfold aLay
            rw [b_5, gd, i_i]
            simp only [show ¬ nI 1 = nI 2 by decide, false_and, Bool.and_self, ↓reduceIte]
        · skip
          refine ex_iload_n (pc := 20) dX6_lay_20 rfl ?_
          refine ex_iconst (pc := 21) (v := (nI 1)) dX6_lay_21 (by decide) ?_
          refine bx_icmp_ne_t (pc := 22) (tgt := 33) dX6_lay_22 (by decide) (by decide) ?_
          refine ex_iload_n (pc := 33) dX6_lay_33 rfl ?_
          refine ex_iconst (pc := 34) (v := (nI 2)) dX6_lay_34 (by decide) ?_
          refine bx_icmp_ne_f (pc := 35) (tgt := 49) dX6_lay_35 (by decide) (rfl) ?_
          refine ex_iload_n (pc := 38) dX6_lay_38 rfl ?_
          refine ex_iconst (pc := 39) (v := (nI 4)) dX6_lay_39 (by decide) ?_
          refine cx_SL2i (pc := 40) dX6_lay_40 lk_X6_69 rfl (Nat.le_of_ble_eq_true rfl) (Nat.le_of_ble_eq_true rfl) (by omega) (c_ib _ _) (fun h_40 x_40 q_40 => ?_)
          obtain ⟨e_40, f_40⟩ := q_40
          rw [e_40, f_40]
          refine ex_if_ne (pc := 43) (tgt := 49) dX6_lay_43 (by decide) (fun c_43 => ?_) (fun c_43 => ?_)
          · skip
            have b_43 := bT c_43
            obtain ⟨u, hu, rfl⟩ := bw_ex b_43
            have i_u : ixI (nI u) = u := iK (by omega)
            obtain ⟨hs1, cf, hs2, hs3⟩ := hsk u hu
            refine ex_iload_n (pc := 49) dX6_lay_49 rfl ?_
            refine ex_iconst (pc := 50) (v := (nI 2)) dX6_lay_50 (by decide) ?_
            refine bx_icmp_ne_f (pc := 51) (tgt := 69) dX6_lay_51 (by decide) (rfl) ?_
            refine ex_aload_n (pc := 54) dX6_lay_54 rfl ?_
            refine ex_get (pc := 55) dX6_lay_55 fl_X6_50 hW rfl ?_
            refine ex_iload_n (pc := 58) dX6_lay_58 rfl ?_
            refine ex_aldn (k := u) (v := .ref (g.1 + (47 + 2 * u))) (pc := 59) dX6_lay_59 rfl hfs rfl (by omega) (by decide) (congrArg va_rf (hfs2 u (by omega))) ?_
            refine cx_VL0i (pc := 60) dX6_lay_60 lk_X6_227 hs1 rfl (Nat.le_of_ble_eq_true rfl) (Nat.le_of_ble_eq_true rfl) (by omega) (c_S_isMissing hs1) (fun h_60 x_60 q_60 => ?_)
            obtain ⟨e_60, f_60⟩ := q_60
            rw [e_60, f_60]
            refine ex_if_eq (pc := 63) (tgt := 69) dX6_lay_63 (by decide) (fun c_63 => ?_) (fun c_63 => ?_)
            · skip
              have k1 : ¬ S.1 u = -1 := bI_0.mp c_63
              refine ex_aload_n (pc := 69) dX6_lay_69 rfl ?_
              refine ex_get (pc := 70) dX6_lay_70 fl_X6_56 hW rfl ?_
              refine ex_iload_n (pc := 73) dX6_lay_73 rfl ?_
              refine ex_aldn (k := i) (v := .ref (g.1 + (55 + 4 * i))) (pc := 74) dX6_lay_74 rfl hls rfl (by omega) (by decide) (congrArg va_rf (hls2 i (by omega))) ?_
              refine sx_astore (pc := 75) dX6_lay_75 rfl (by decide) ?_
              show Ex _ _ _ _ _ _ [_, _, _, _, _, _] _ _ _
              refine ex_aload (pc := 77) dX6_lay_77 rfl ?_
              refine ex_get (pc := 79) dX6_lay_79 fl_X6_312 a1 rfl ?_
              refine sx_istore (pc := 82) dX6_lay_82 rfl (by decide) ?_
              show Ex _ _ _ _ _ _ [_, _, _, _, _, _] _ _ _
              refine ex_aload (pc := 84) dX6_lay_84 rfl ?_
              refine ex_iload_n (pc := 86) dX6_lay_86 rfl ?_
              refine ex_put (pc := 87) dX6_lay_87 fp_X6_312 a1 (Nat.le_of_ble_eq_true rfl) rfl rfl ?_
              refine ex_iload_n (pc := 90) dX6_lay_90 rfl ?_
              refine ex_iconst (pc := 91) (v := (nI 1)) dX6_lay_91 (by decide) ?_
              refine bx_icmp_ne_t (pc := 92) (tgt := 115) dX6_lay_92 (by decide) (by decide) ?_
              refine ex_iload_n (pc := 115) dX6_lay_115 rfl ?_
              refine ex_iconst (pc := 116) (v := (nI 2)) dX6_lay_116 (by decide) ?_
              refine bx_icmp_ne_f (pc := 117) (tgt := 137) dX6_lay_117 (by decide) (rfl) ?_
              refine ex_aload (pc := 120) dX6_lay_120 rfl ?_
              refine ex_get (pc := 122) dX6_lay_122 fl_X6_321 (gs_eq a1) rfl ?_
              refine ex_aload_n (pc := 125) dX6_lay_125 rfl ?_
              refine ex_get (pc := 126) dX6_lay_126 fl_X6_50 (gs_ne (by omega) hW) rfl ?_
              refine ex_iload_n (pc := 129) dX6_lay_129 rfl ?_
              refine ex_aldn (k := u) (v := .ref (g.1 + (47 + 2 * u))) (pc := 130) dX6_lay_130 rfl (gs_ne (by omega) hfs) rfl (by omega) (by decide) (congrArg va_rf (hfs2 u (by omega))) ?_
              refine cx_VL1v (pc := 131) dX6_lay_131 lk_X6_325 (gs_ne (by omega) a3) rfl (Nat.le_of_ble_eq_true rfl) (Nat.le_of_ble_eq_true rfl) (by omega) (c_S_becomeAs (by omega) (by omega) (by omega) (by omega) (by omega) (gs_ne (by omega) a3) (gs_ne (by omega) a4) (gs_ne (by omega) hs1) (gs_ne (by omega) hs2) (by omega)) (fun h_131 q_131 => ?_)
              obtain ⟨g1, ⟨f1, g2, g3⟩, g4⟩ := q_131
              refine ex_goto (pc := 134) (tgt := 148) dX6_lay_134 (by decide) ?_
              refine ex_iload (pc := 148) dX6_lay_148 rfl ?_
              refine ex_ret dX6_lay_150 rfl ?_
              have i_t : ixI (nI 2) = 2 := by decide
              have e1 : nLay s n S L (nI i) (nI 2) (nI u) = setF L i (newSl s S 2 (nI u)) := by
                have gd : gdL n (nI 2) (nI u) = true := by simp [gdL, show ¬ nI 2 = nI 0 by decide, show ¬ nI 2 = nI 1 by decide, show ¬ nI 2 = nI 3 by decide, b_43]
                unfold nLay
                rw [b_5, gd, i_i, i_t]
                simp only [i_u, k1, and_false, Bool.and_self, ↓reduceIte]
              rw [e1]
              refine qi_mk ⟨hL0.set hi (FrX.tr (FrX.st ⟨by omega, by omega⟩ (nscr (by omega))) (g4.mono (fun x hx => by unfold pr2 at hx; unfold sl1; omega))) ⟨nu, kd, ce, si, ti, _, _, f1, g4.at (by unfold pr2; omega) (nscr (by omega)) (gs_eq a1), g4.at (by unfold pr2; omega) (nscr (by omega)) (gs_ne (by omega) a2), g1, g2, fun z => absurd z (show ¬ (2 : Nat) = 1 by decide), fun _ => by unfold newSl; rw [if_neg (by decide), if_pos rfl, i_u]; exact ⟨rfl, fun j hj => (g3 j hj).trans (hs3 j hj)⟩, fun z => absurd z (show ¬ (2 : Nat) = 3 by decide)⟩, ?_⟩
              have gd : gdL n (nI 2) (nI u) = true := by simp [gdL, show ¬ nI 2 = nI 0 by decide, show ¬ nI 2 = nI 1 by decide, show ¬ nI 2 = nI 3 by decide, b_43]
              unfold aLay
              rw [b_5, gd, i_i]
              simp only [i_u, k1, and_false, Bool.and_self, ↓reduceIte]
            · skip
              have k1 : S.1 u = -1 := Decidable.not_not.mp (fun q => c_63 (bI_f q))
              refine ex_ldc (pc := 66) dX6_lay_66 cn_X6_230 ?_
              refine ex_ret dX6_lay_68 rfl ?_
              have gd : gdL n (nI 2) (nI u) = true := by simp [gdL, show ¬ nI 2 = nI 0 by decide, show ¬ nI 2 = nI 1 by decide, show ¬ nI 2 = nI 3 by decide, b_43]
              have e1 : nLay s n S L (nI i) (nI 2) (nI u) = L := by
                unfold nLay
                rw [b_5, gd, i_u]
                simp only [k1, and_self, Bool.and_self, ↓reduceIte]
              rw [e1]
              refine qi_mk ⟨⟨hL0, FrX.rf⟩, ?_⟩
              unfold aLay
              rw [b_5, gd, i_u]
              simp only [k1, and_self, Bool.and_self, ↓reduceIte]
          · skip
            have b_43 := bF c_43
            refine ex_ldc (pc := 46) dX6_lay_46 cn_X6_73 ?_
            refine ex_ret dX6_lay_48 rfl ?_
            have e1 : nLay s n S L (nI i) (nI 2) k = L := by simp [nLay, gdL, i_i, b_5, show ¬ nI 2 = nI 0 by decide, show ¬ nI 2 = nI 1 by decide, show ¬ nI 2 = nI 3 by decide, b_43]
            rw [e1]
            refine qi_mk ⟨⟨hL0, FrX.rf⟩, ?_⟩
            simp [aLay, gdL, i_i, b_5, show ¬ nI 2 = nI 0 by decide, show ¬ nI 2 = nI 1 by decide, show ¬ nI 2 = nI 3 by decide, b_43]
        · skip
          refine ex_iload_n (pc := 20) dX6_lay_20 rfl ?_
          refine ex_iconst (pc := 21) (v := (nI 1)) dX6_lay_21 (by decide) ?_
          refine bx_icmp_ne_t (pc := 22) (tgt := 33) dX6_lay_22 (by decide) (by decide) ?_
          refine ex_iload_n (pc := 33) dX6_lay_33 rfl ?_
          refine ex_iconst (pc := 34) (v := (nI 2)) dX6_lay_34 (by decide) ?_
          refine bx_icmp_ne_t (pc := 35) (tgt := 49) dX6_lay_35 (by decide) (by decide) ?_
          refine ex_iload_n (pc := 49) dX6_lay_49 rfl ?_
          refine ex_iconst (pc := 50) (v := (nI 2)) dX6_lay_50 (by decide) ?_
          refine bx_icmp_ne_t (pc := 51) (tgt := 69) dX6_lay_51 (by decide) (by decide) ?_
          refine ex_aload_n (pc := 69) dX6_lay_69 rfl ?_
          refine ex_get (pc := 70) dX6_lay_70 fl_X6_56 hW rfl ?_
          refine ex_iload_n (pc := 73) dX6_lay_73 rfl ?_
          refine ex_aldn (k := i) (v := .ref (g.1 + (55 + 4 * i))) (pc := 74) dX6_lay_74 rfl hls rfl (by omega) (by decide) (congrArg va_rf (hls2 i (by omega))) ?_
          refine sx_astore (pc := 75) dX6_lay_75 rfl (by decide) ?_
          show Ex _ _ _ _ _ _ [_, _, _, _, _, _] _ _ _
          refine ex_aload (pc := 77) dX6_lay_77 rfl ?_
          refine ex_get (pc := 79) dX6_lay_79 fl_X6_312 a1 rfl ?_
          refine sx_istore (pc := 82) dX6_lay_82 rfl (by decide) ?_
          show Ex _ _ _ _ _ _ [_, _, _, _, _, _] _ _ _
          refine ex_aload (pc := 84) dX6_lay_84 rfl ?_
          refine ex_iload_n (pc := 86) dX6_lay_86 rfl ?_
          refine ex_put (pc := 87) dX6_lay_87 fp_X6_312 a1 (Nat.le_of_ble_eq_true rfl) rfl rfl ?_
          refine ex_iload_n (pc := 90) dX6_lay_90 rfl ?_
          refine ex_iconst (pc := 91) (v := (nI 1)) dX6_lay_91 (by decide) ?_
          refine bx_icmp_ne_t (pc := 92) (tgt := 115) dX6_lay_92 (by decide) (by decide) ?_
          refine ex_iload_n (pc := 115) dX6_lay_115 rfl ?_
          refine ex_iconst (pc := 116) (v := (nI 2)) dX6_lay_116 (by decide) ?_
          refine bx_icmp_ne_t (pc := 117) (tgt := 137) dX6_lay_117 (by decide) (by decide) ?_
          refine ex_iload_n (pc := 137) dX6_lay_137 rfl ?_
          refine ex_iconst (pc := 138) (v := (nI 3)) dX6_lay_138 (by decide) ?_
          refine bx_icmp_ne_f (pc := 139) (tgt := 148) dX6_lay_139 (by decide) (rfl) ?_
          refine ex_aload (pc := 142) dX6_lay_142 rfl ?_
          refine ex_iload_n (pc := 144) dX6_lay_144 rfl ?_
          refine ex_put (pc := 145) dX6_lay_145 fp_X6_327 (gs_eq a1) (Nat.le_of_ble_eq_true rfl) rfl rfl ?_
          refine ex_iload (pc := 148) dX6_lay_148 rfl ?_
          refine ex_ret dX6_lay_150 rfl ?_
          have i_t : ixI (nI 3) = 3 := by decide
          have e1 : nLay s n S L (nI i) (nI 3) k = setF L i (newSl s S 3 k) := by
            have gd : gdL n (nI 3) k = true := by simp [gdL, show ¬ nI 3 = nI 0 by decide, show ¬ nI 3 = nI 1 by decide, show ¬ nI 3 = nI 2 by decide]
            unfold nLay
            rw [b_5, gd, i_i, i_t]
            simp only [show ¬ nI 3 = nI 2 by decide, false_and, Bool.and_self, ↓reduceIte]
          rw [e1]
          refine qi_mk ⟨hL0.set hi (FrX.tr (FrX.st ⟨by omega, by omega⟩ (nscr (by omega))) (FrX.st ⟨by omega, by omega⟩ (nscr (by omega)))) ⟨k, kd, ce, si, ti, so, sz, cf2, gs_eq (gs_eq a1), gs_ne (by omega) (gs_ne (by omega) a2), gs_ne (by omega) (gs_ne (by omega) a3), gs_ne (by omega) (gs_ne (by omega) a4), fun z => absurd z (show ¬ (3 : Nat) = 1 by decide), fun z => absurd z (show ¬ (3 : Nat) = 2 by decide), fun _ => rfl⟩, ?_⟩
          have gd : gdL n (nI 3) k = true := by simp [gdL, show ¬ nI 3 = nI 0 by decide, show ¬ nI 3 = nI 1 by decide, show ¬ nI 3 = nI 2 by decide]
          unfold aLay
          rw [b_5, gd, i_i]
          simp only [show ¬ nI 3 = nI 2 by decide, false_and, Bool.and_self, ↓reduceIte]
      · skip
        refine ex_ldc (pc := 17) dX6_lay_17 cn_X6_73 ?_
        refine ex_ret dX6_lay_19 rfl ?_
        have k1 : gdL n t k = false := gd_big c_14
        have e1 : nLay s n S L q t k = L := by simp [nLay, k1]
        rw [e1]
        refine qi_mk ⟨⟨hL0, FrX.rf⟩, ?_⟩
        simp [aLay, k1]

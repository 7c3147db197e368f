/-! something is laid into a slot: the reference -/
def slMk (f82 f83 f84 f85 f86 : Nat → Int32) (k : Nat) (x : Slt) : Prop := f82 k = nI x.1 ∧ (x.1 = 1 ∨ x.1 = 3 → f83 k = x.2.1) ∧ (x.1 = 1 → f84 k = x.2.2.1) ∧ (x.1 = 2 → f85 k = nI x.2.2.2.1 ∧ ∀ j, j < 24 → f86 (24 * k + j) = x.2.2.2.2 j)
theorem SltM.set {g : Gl} {h' : AH} {L : Nat → Slt} {i : Nat} {x : Slt} {f82 f83 f84 f85 f86 F82 F83 F84 F85 F86 : Nat → Int32} (ho : ∀ k, k < 5 → slMk f82 f83 f84 f85 f86 k (L k)) (h1 : h'[82]? = some (ia g 5 F82)) (h2 : h'[83]? = some (ia g 5 F83)) (h3 : h'[84]? = some (ia g 5 F84)) (h4 : h'[85]? = some (ia g 5 F85)) (h5 : h'[86]? = some (ia g 120 F86)) (hne : ∀ k, k < 5 → ¬ k = i → F82 k = f82 k ∧ F83 k = f83 k ∧ F84 k = f84 k ∧ F85 k = f85 k ∧ ∀ j, j < 24 → F86 (24 * k + j) = f86 (24 * k + j)) (hx : slMk F82 F83 F84 F85 F86 i x) : SltM g h' (setF L i x) := by
  refine ⟨F82, F83, F84, F85, F86, ⟨h1, h2, h3, h4, h5⟩, fun k hk => ?_⟩
  by_cases e : k = i
  · subst e; rw [sF_eq]; exact hx
  · rw [sF_ne e]
    obtain ⟨a1, a2, a3, a4, a5⟩ := hne k hk e
    obtain ⟨b1, b2, b3, b4⟩ := ho k hk
    exact ⟨a1.trans b1, fun z => a2.trans (b2 z), fun z => a3.trans (b3 z), fun z => ⟨a4.trans (b4 z).1, fun j hj => (a5 j hj).trans ((b4 z).2 j hj)⟩⟩
def c86 (k : Nat) : Prop := k = 86
set_option maxHeartbeats 4000000 in
set_option maxRecDepth 100000 in
theorem c_M_lay_l {g : Gl} {d ks : Nat} {h : AH} {z : Nat → Int32} {i u : Nat} (hi : i < 5) (hu : u < 4) {gd was : Int32} {f81 f0 : Nat → Int32} : ∀ (m k : Nat) (h1 : AH), h1[75]? = some (moC g z) → h1[81]? = some (ia g 96 f81) → FrX c86 g h h1 → ∀ (f : Nat → Int32), h1[86]? = some (ia g 120 f) → (∀ v, v < 5 → ∀ j, j < 24 → f (24 * v + j) = if v = i ∧ j < k then f81 (24 * u + j) else f0 (24 * v + j)) → k + m = 24 → Ex g mX7_lay d 0 ks 150 [some (.ref (g.1 + 75)), some (.int (nI i)), some (.int (nI 2)), some (.int (nI u)), some (.int gd), some (.int was), some (.int (nI (k)))] [] h1 (qi (fun h' r => (∃ f', h'[86]? = some (ia g 120 f') ∧ (∀ v, v < 5 → ∀ j, j < 24 → f' (24 * v + j) = if v = i then f81 (24 * u + j) else f0 (24 * v + j)) ∧ FrX c86 g h h') ∧ r = was)) := by
  intro m
  induction m with
  | zero =>
    intro k h1 hM h81 hF f h86 hf hk
    refine ex_iload (pc := 150) dX7_lay_150 rfl ?_
    refine ex_bipush (pc := 152) (v := (nI 24)) dX7_lay_152 (by decide) ?_
    refine bx_icmp_ge_t (pc := 154) (tgt := 187) dX7_lay_154 (by decide) (by rw [show k = 24 by omega]; exact Int32.le_refl _) ?_
    refine ex_iload (pc := 187) dX7_lay_187 rfl ?_
    refine ex_ret dX7_lay_189 rfl ?_
    refine qi_mk ⟨⟨f, h86, fun v hv j hj => ?_, hF⟩, rfl⟩
    rw [hf v hv j hj]
    by_cases e : v = i
    · rw [if_pos ⟨e, by omega⟩, if_pos e]
    · rw [if_neg (fun z => e z.1), if_neg e]
  | succ m ih =>
    intro k h1 hM h81 hF f h86 hf hk
    refine ex_iload (pc := 150) dX7_lay_150 rfl ?_
    refine ex_bipush (pc := 152) (v := (nI 24)) dX7_lay_152 (by decide) ?_
    refine bx_icmp_ge_f (pc := 154) (tgt := 187) dX7_lay_154 (by decide) (nI_ge (by omega) (by omega)) ?_
    refine ex_aload_n (pc := 157) dX7_lay_157 rfl ?_
    refine ex_get (pc := 158) dX7_lay_158 fl_X7_40 hM rfl ?_
    refine ex_bipush (pc := 161) (v := (nI 24)) dX7_lay_161 (by decide) ?_
    refine ex_iload_n (pc := 163) dX7_lay_163 rfl ?_
    refine ex_imul (pc := 164) dX7_lay_164 ?_
    refine ex_iload (pc := 165) dX7_lay_165 rfl ?_
    refine ex_iadd (pc := 167) dX7_lay_167 ?_
    rw [nI_mul, nI_add]
    refine ex_aload_n (pc := 168) dX7_lay_168 rfl ?_
    refine ex_get (pc := 169) dX7_lay_169 fl_X7_25 hM rfl ?_
    refine ex_bipush (pc := 172) (v := (nI 24)) dX7_lay_172 (by decide) ?_
    refine ex_iload_n (pc := 174) dX7_lay_174 rfl ?_
    refine ex_imul (pc := 175) dX7_lay_175 ?_
    refine ex_iload (pc := 176) dX7_lay_176 rfl ?_
    refine ex_iadd (pc := 178) dX7_lay_178 ?_
    rw [nI_mul, nI_add]
    refine ex_ildn (k := 24 * u + k) (pc := 179) dX7_lay_179 h81 rfl (by omega) (by decide) ?_
    refine ex_istn (k := 24 * i + k) (pc := 180) dX7_lay_180 h86 rfl (by omega) (by decide) ?_
    first | refine sx_inc (pc := 181) dX7_lay_181 rfl rfl (by decide) ?_ | refine sx_iinc (pc := 181) dX7_lay_181 rfl rfl (by decide) ?_
    show Ex _ _ _ _ _ _ [_, _, _, _, _, _, _] _ _ _
    refine ex_goto (pc := 184) (tgt := 150) dX7_lay_184 (by decide) ?_
    exact ih (k + 1) _ (gs_ne (by decide) hM) (gs_ne (by decide) h81) (hF.tr (FrX.st rfl (nscr (by omega)))) _ (gs_eq h86) (fun v hv j hj => by
      by_cases e : 24 * v + j = 24 * i + k
      · rw [e, upd_eq, if_pos ⟨by omega, by omega⟩, show j = k by omega]
      · rw [upd_ne e, hf v hv j hj]
        by_cases q : v = i ∧ j < k
        · rw [if_pos q, if_pos ⟨q.1, by omega⟩]
        · rw [if_neg q, if_neg (fun z => q ⟨z.1, by have := z.1; have := z.2; omega⟩)]) (by omega)
set_option maxHeartbeats 4000000 in
set_option maxRecDepth 100000 in
theorem c_M_lay {g : Gl} {d ks : Nat} {h : AH} {z s : Nat → Int32} {n nt : Nat} (hR : MR g h z s n nt) {S : Sht} (hS : ShtM g h S) (hO : SOk S) {L : Nat → Slt} (hL : SltM g h L) (hd : 2 ≤ d) (q t k : Int32) : Ex g mX7_lay d 0 ks 0 [some (.ref (g.1 + 75)), some (.int q), some (.int t), some (.int k), none, none, none] [] h (qi (fun h' r => (SltM g h' (nLay s n S L q t k) ∧ FrX lmX g h h') ∧ r = aLay n S L q t k)) := by
  have hM := hR.1
  have hP := hR.2.1
  have hn8 := hP.2.1
  have hN := hP.1
  have hS0 := hS
  obtain ⟨⟨f79, h79, e79⟩, ⟨f80, h80, e80⟩, f81, h81, e81⟩ := hS
  have hL0 := hL
  obtain ⟨f82, f83, f84, f85, f86, ⟨h82, h83, h84, h85, h86⟩, hlk⟩ := hL
  by_cases q0 : t = nI 0
  · subst q0
    refine ex_iload_n (pc := 0) dX7_lay_0 rfl ?_
    refine bx_if_eq_t (pc := 1) (tgt := 34) dX7_lay_1 (by decide) (by decide) ?_
    refine ex_iconst (pc := 34) (v := (nI 1)) dX7_lay_34 (by decide) ?_
    refine ex_goto (pc := 35) (tgt := 39) dX7_lay_35 (by decide) ?_
    refine sx_istore (pc := 39) dX7_lay_39 rfl (by decide) ?_
    show Ex _ _ _ _ _ _ [_, _, _, _, _, _, _] _ _ _
    refine ex_iload_n (pc := 41) dX7_lay_41 rfl ?_
    refine cx_SL1i (pc := 42) dX7_lay_42 lk_X7_384 rfl (Nat.le_of_ble_eq_true rfl) (Nat.le_of_ble_eq_true rfl) (by omega) (c_M_slB (by omega) _) (fun h_42 x_42 q_42 => ?_)
    obtain ⟨e_42, f_42⟩ := q_42
    rw [e_42, f_42]
    refine ex_if_eq (pc := 45) (tgt := 53) dX7_lay_45 (by decide) (fun c_45 => ?_) (fun c_45 => ?_)
    · skip
      have b_45 := bF c_45
      refine ex_ldc (pc := 53) dX7_lay_53 cn_X7_161 ?_
      refine ex_ret dX7_lay_55 rfl ?_
      have e1 : nLay s n S L q (nI 0) k = L := by simp [nLay, b_45]
      rw [e1]
      refine qi_mk ⟨⟨hL0, FrX.rf⟩, ?_⟩
      simp [aLay, b_45]
    · skip
      have b_45 := bT c_45
      obtain ⟨i, hi, rfl⟩ := bw_ex b_45
      have i_i : ixI (nI i) = i := iK (by omega)
      have hcs := hlk i hi
      refine ex_iload (pc := 48) dX7_lay_48 rfl ?_
      refine bx_if_ne_t (pc := 50) (tgt := 56) dX7_lay_50 (by decide) (by decide) ?_
      refine ex_iload_n (pc := 56) dX7_lay_56 rfl ?_
      refine ex_iconst (pc := 57) (v := (nI 2)) dX7_lay_57 (by decide) ?_
      refine bx_icmp_ne_t (pc := 58) (tgt := 74) dX7_lay_58 (by decide) (by decide) ?_
      refine ex_aload_n (pc := 74) dX7_lay_74 rfl ?_
      refine ex_get (pc := 75) dX7_lay_75 fl_X7_28 hM.1 rfl ?_
      refine ex_iload_n (pc := 78) dX7_lay_78 rfl ?_
      refine ex_ildn (k := i) (pc := 79) dX7_lay_79 h82 rfl (by omega) (by decide) ?_
      rw [hcs.1]
      refine sx_istore (pc := 80) dX7_lay_80 rfl (by decide) ?_
      show Ex _ _ _ _ _ _ [_, _, _, _, _, _, _] _ _ _
      refine ex_aload_n (pc := 82) dX7_lay_82 rfl ?_
      refine ex_get (pc := 83) dX7_lay_83 fl_X7_28 hM.1 rfl ?_
      refine ex_iload_n (pc := 86) dX7_lay_86 rfl ?_
      refine ex_iload_n (pc := 87) dX7_lay_87 rfl ?_
      refine ex_istn (k := i) (pc := 88) dX7_lay_88 h82 rfl (by omega) (by decide) ?_
      refine ex_aload_n (pc := 89) dX7_lay_89 rfl ?_
      refine ex_get (pc := 90) dX7_lay_90 fl_X7_31 (gs_ne (by decide) hM.1) rfl ?_
      refine ex_iload_n (pc := 93) dX7_lay_93 rfl ?_
      refine ex_iload_n (pc := 94) dX7_lay_94 rfl ?_
      refine ex_iconst (pc := 95) (v := (nI 1)) dX7_lay_95 (by decide) ?_
      refine bx_icmp_ne_t (pc := 96) (tgt := 108) dX7_lay_96 (by decide) (by decide) ?_
      refine ex_iload_n (pc := 108) dX7_lay_108 rfl ?_
      refine ex_istn (k := i) (pc := 109) dX7_lay_109 (gs_ne (by decide) h83) rfl (by omega) (by decide) ?_
      refine ex_aload_n (pc := 110) dX7_lay_110 rfl ?_
      refine ex_get (pc := 111) dX7_lay_111 fl_X7_34 (gs_ne (by decide) (gs_ne (by decide) hM.1)) rfl ?_
      refine ex_iload_n (pc := 114) dX7_lay_114 rfl ?_
      refine ex_iload_n (pc := 115) dX7_lay_115 rfl ?_
      refine ex_iconst (pc := 116) (v := (nI 1)) dX7_lay_116 (by decide) ?_
      refine bx_icmp_ne_t (pc := 117) (tgt := 128) dX7_lay_117 (by decide) (by decide) ?_
      refine ex_iconst (pc := 128) (v := (nI 0)) dX7_lay_128 (by decide) ?_
      refine ex_istn (k := i) (pc := 129) dX7_lay_129 (gs_ne (by decide) (gs_ne (by decide) h84)) rfl (by omega) (by decide) ?_
      refine ex_iload_n (pc := 130) dX7_lay_130 rfl ?_
      refine ex_iconst (pc := 131) (v := (nI 2)) dX7_lay_131 (by decide) ?_
      refine bx_icmp_ne_t (pc := 132) (tgt := 187) dX7_lay_132 (by decide) (by decide) ?_
      refine ex_iload (pc := 187) dX7_lay_187 rfl ?_
      refine ex_ret dX7_lay_189 rfl ?_
      have gd : gdL n (nI 0) k = true := by simp [gdL, show ¬ nI 0 = nI 1 by decide, show ¬ nI 0 = nI 2 by decide, show ¬ nI 0 = nI 3 by decide]
      have i_t : ixI (nI 0) = 0 := by decide
      have e1 : nLay s n S L (nI i) (nI 0) k = setF L i (newSl s S 0 k) := by
        unfold nLay
        rw [b_45, gd, i_i, i_t]
        simp only [show ¬ nI 0 = nI 2 by decide, false_and, Bool.and_self, ↓reduceIte]
      rw [e1]
      refine qi_mk ⟨⟨SltM.set hlk (gs_ne (by decide) (gs_ne (by decide) (gs_eq h82))) (gs_ne (by decide) (gs_eq (gs_ne (by decide) h83))) (gs_eq (gs_ne (by decide) (gs_ne (by decide) h84))) (gs_ne (by decide) (gs_ne (by decide) (gs_ne (by decide) h85))) (gs_ne (by decide) (gs_ne (by decide) (gs_ne (by decide) h86))) (fun v hv e => ⟨upd_ne e, upd_ne e, upd_ne e, rfl, fun j hj => rfl⟩) ⟨upd_eq, fun z => absurd z (show ¬ ((0 : Nat) = 1 ∨ (0 : Nat) = 3) by decide), fun z => absurd z (show ¬ (0 : Nat) = 1 by decide), fun z => absurd z (show ¬ (0 : Nat) = 2 by decide)⟩, FrX.tr (FrX.tr (FrX.st ⟨by omega, by omega⟩ (nscr (by omega))) (FrX.st ⟨by omega, by omega⟩ (nscr (by omega)))) (FrX.st ⟨by omega, by omega⟩ (nscr (by omega)))⟩, ?_⟩
      unfold aLay
      rw [b_45, gd, i_i]
      simp only [show ¬ nI 0 = nI 2 by decide, false_and, Bool.and_self, ↓reduceIte]
  · by_cases q1 : t = nI 1
    · subst q1
      refine ex_iload_n (pc := 0) dX7_lay_0 rfl ?_
      refine bx_if_eq_f (pc := 1) (tgt := 34) dX7_lay_1 (by decide) (by decide) ?_
      refine ex_iload_n (pc := 4) dX7_lay_4 rfl ?_
      refine ex_iconst (pc := 5) (v := (nI 3)) dX7_lay_5 (by decide) ?_
      refine bx_icmp_eq_f (pc := 6) (tgt := 34) dX7_lay_6 (by decide) (by decide) ?_
      refine ex_iload_n (pc := 9) dX7_lay_9 rfl ?_
      refine ex_iconst (pc := 10) (v := (nI 1)) dX7_lay_10 (by decide) ?_
      refine bx_icmp_ne_f (pc := 11) (tgt := 22) dX7_lay_11 (by decide) (rfl) ?_
      refine ex_aload_n (pc := 14) dX7_lay_14 rfl ?_
      refine ex_iload_n (pc := 15) dX7_lay_15 rfl ?_
      refine cx_VL1i (pc := 16) dX7_lay_16 lk_X7_171 hM.1 rfl (Nat.le_of_ble_eq_true rfl) (Nat.le_of_ble_eq_true rfl) (by omega) (c_M_isp hM hN hn8 (by omega) _) (fun h_16 x_16 q_16 => ?_)
      obtain ⟨e_16, f_16⟩ := q_16
      rw [e_16, f_16]
      refine ex_if_ne (pc := 19) (tgt := 34) dX7_lay_19 (by decide) (fun c_19 => ?_) (fun c_19 => ?_)
      · skip
        have b_19 := bT c_19
        obtain ⟨p0, hp0, rfl⟩ := bw_ex b_19
        have i_p : ixI (nI p0) = p0 := iK (by omega)
        refine ex_iconst (pc := 34) (v := (nI 1)) dX7_lay_34 (by decide) ?_
        refine ex_goto (pc := 35) (tgt := 39) dX7_lay_35 (by decide) ?_
        refine sx_istore (pc := 39) dX7_lay_39 rfl (by decide) ?_
        show Ex _ _ _ _ _ _ [_, _, _, _, _, _, _] _ _ _
        refine ex_iload_n (pc := 41) dX7_lay_41 rfl ?_
        refine cx_SL1i (pc := 42) dX7_lay_42 lk_X7_384 rfl (Nat.le_of_ble_eq_true rfl) (Nat.le_of_ble_eq_true rfl) (by omega) (c_M_slB (by omega) _) (fun h_42 x_42 q_42 => ?_)
        obtain ⟨e_42, f_42⟩ := q_42
        rw [e_42, f_42]
        refine ex_if_eq (pc := 45) (tgt := 53) dX7_lay_45 (by decide) (fun c_45 => ?_) (fun c_45 => ?_)
        · skip
          have b_45 := bF c_45
          refine ex_ldc (pc := 53) dX7_lay_53 cn_X7_161 ?_
          refine ex_ret dX7_lay_55 rfl ?_
          have e1 : nLay s n S L q (nI 1) (nI p0) = L := by simp [nLay, b_45]
          rw [e1]
          refine qi_mk ⟨⟨hL0, FrX.rf⟩, ?_⟩
          simp [aLay, b_45]
        · skip
          have b_45 := bT c_45
          obtain ⟨i, hi, rfl⟩ := bw_ex b_45
          have i_i : ixI (nI i) = i := iK (by omega)
          have hcs := hlk i hi
          refine ex_iload (pc := 48) dX7_lay_48 rfl ?_
          refine bx_if_ne_t (pc := 50) (tgt := 56) dX7_lay_50 (by decide) (by decide) ?_
          refine ex_iload_n (pc := 56) dX7_lay_56 rfl ?_
          refine ex_iconst (pc := 57) (v := (nI 2)) dX7_lay_57 (by decide) ?_
          refine bx_icmp_ne_t (pc := 58) (tgt := 74) dX7_lay_58 (by decide) (by decide) ?_
          refine ex_aload_n (pc := 74) dX7_lay_74 rfl ?_
          refine ex_get (pc := 75) dX7_lay_75 fl_X7_28 hM.1 rfl ?_
          refine ex_iload_n (pc := 78) dX7_lay_78 rfl ?_
          refine ex_ildn (k := i) (pc := 79) dX7_lay_79 h82 rfl (by omega) (by decide) ?_
          rw [hcs.1]
          refine sx_istore (pc := 80) dX7_lay_80 rfl (by decide) ?_
          show Ex _ _ _ _ _ _ [_, _, _, _, _, _, _] _ _ _
          refine ex_aload_n (pc := 82) dX7_lay_82 rfl ?_
          refine ex_get (pc := 83) dX7_lay_83 fl_X7_28 hM.1 rfl ?_
          refine ex_iload_n (pc := 86) dX7_lay_86 rfl ?_
          refine ex_iload_n (pc := 87) dX7_lay_87 rfl ?_
          refine ex_istn (k := i) (pc := 88) dX7_lay_88 h82 rfl (by omega) (by decide) ?_
          refine ex_aload_n (pc := 89) dX7_lay_89 rfl ?_
          refine ex_get (pc := 90) dX7_lay_90 fl_X7_31 (gs_ne (by decide) hM.1) rfl ?_
          refine ex_iload_n (pc := 93) dX7_lay_93 rfl ?_
          refine ex_iload_n (pc := 94) dX7_lay_94 rfl ?_
          refine ex_iconst (pc := 95) (v := (nI 1)) dX7_lay_95 (by decide) ?_
          refine bx_icmp_ne_f (pc := 96) (tgt := 108) dX7_lay_96 (by decide) (rfl) ?_
          have hM2 : Ms g (h.set 82 (ia g 5 (upd f82 i (nI 1)))) z s := ⟨gs_ne (by decide) hM.1, gs_ne (by decide) hM.2⟩
          refine ex_aload_n (pc := 99) dX7_lay_99 rfl ?_
          refine ex_iload_n (pc := 100) dX7_lay_100 rfl ?_
          refine ex_iconst (pc := 101) (v := (nI 0)) dX7_lay_101 (by decide) ?_
          refine cx_VL2i (pc := 102) dX7_lay_102 lk_X7_76 hM2.1 rfl (Nat.le_of_ble_eq_true rfl) (Nat.le_of_ble_eq_true rfl) (by omega) (c_M_of hM2 (k := p0) (f := 0) (by omega)) (fun h_102 x_102 q_102 => ?_)
          obtain ⟨e_102, f_102⟩ := q_102
          rw [e_102, f_102]
          refine ex_goto (pc := 105) (tgt := 109) dX7_lay_105 (by decide) ?_
          refine ex_istn (k := i) (pc := 109) dX7_lay_109 (gs_ne (by decide) h83) rfl (by omega) (by decide) ?_
          refine ex_aload_n (pc := 110) dX7_lay_110 rfl ?_
          refine ex_get (pc := 111) dX7_lay_111 fl_X7_34 (gs_ne (by decide) (gs_ne (by decide) hM.1)) rfl ?_
          refine ex_iload_n (pc := 114) dX7_lay_114 rfl ?_
          refine ex_iload_n (pc := 115) dX7_lay_115 rfl ?_
          refine ex_iconst (pc := 116) (v := (nI 1)) dX7_lay_116 (by decide) ?_
          refine bx_icmp_ne_f (pc := 117) (tgt := 128) dX7_lay_117 (by decide) (rfl) ?_
          have hM3 : Ms g ((h.set 82 (ia g 5 (upd f82 i (nI 1)))).set 83 (ia g 5 (upd f83 i (s (10 + 4 * p0 + 0))))) z s := ⟨gs_ne (by decide) (gs_ne (by decide) hM.1), gs_ne (by decide) (gs_ne (by decide) hM.2)⟩
          refine ex_aload_n (pc := 120) dX7_lay_120 rfl ?_
          refine ex_iload_n (pc := 121) dX7_lay_121 rfl ?_
          refine cx_VL1i (pc := 122) dX7_lay_122 lk_X7_180 hM3.1 rfl (Nat.le_of_ble_eq_true rfl) (Nat.le_of_ble_eq_true rfl) (by omega) (c_M_worth hM3 (by omega) (show p0 < 8 by omega)) (fun h_122 x_122 q_122 => ?_)
          obtain ⟨e_122, f_122⟩ := q_122
          rw [e_122, f_122]
          refine ex_goto (pc := 125) (tgt := 129) dX7_lay_125 (by decide) ?_
          refine ex_istn (k := i) (pc := 129) dX7_lay_129 (gs_ne (by decide) (gs_ne (by decide) h84)) rfl (by omega) (by decide) ?_
          refine ex_iload_n (pc := 130) dX7_lay_130 rfl ?_
          refine ex_iconst (pc := 131) (v := (nI 2)) dX7_lay_131 (by decide) ?_
          refine bx_icmp_ne_t (pc := 132) (tgt := 187) dX7_lay_132 (by decide) (by decide) ?_
          refine ex_iload (pc := 187) dX7_lay_187 rfl ?_
          refine ex_ret dX7_lay_189 rfl ?_
          have gd : gdL n (nI 1) (nI p0) = true := by simp [gdL, show ¬ nI 1 = nI 0 by decide, show ¬ nI 1 = nI 2 by decide, show ¬ nI 1 = nI 3 by decide, b_19]
          have i_t : ixI (nI 1) = 1 := by decide
          have e1 : nLay s n S L (nI i) (nI 1) (nI p0) = setF L i (newSl s S 1 (nI p0)) := by
            unfold nLay
            rw [b_45, gd, i_i, i_t]
            simp only [show ¬ nI 1 = nI 2 by decide, false_and, Bool.and_self, ↓reduceIte]
          rw [e1]
          refine qi_mk ⟨⟨SltM.set hlk (gs_ne (by decide) (gs_ne (by decide) (gs_eq h82))) (gs_ne (by decide) (gs_eq (gs_ne (by decide) h83))) (gs_eq (gs_ne (by decide) (gs_ne (by decide) h84))) (gs_ne (by decide) (gs_ne (by decide) (gs_ne (by decide) h85))) (gs_ne (by decide) (gs_ne (by decide) (gs_ne (by decide) h86))) (fun v hv e => ⟨upd_ne e, upd_ne e, upd_ne e, rfl, fun j hj => rfl⟩) ⟨upd_eq, fun _ => by rw [upd_eq]; unfold newSl; rw [if_pos rfl, i_p], fun _ => by rw [upd_eq]; unfold newSl; rw [if_pos rfl, i_p], fun z => absurd z (show ¬ (1 : Nat) = 2 by decide)⟩, FrX.tr (FrX.tr (FrX.st ⟨by omega, by omega⟩ (nscr (by omega))) (FrX.st ⟨by omega, by omega⟩ (nscr (by omega)))) (FrX.st ⟨by omega, by omega⟩ (nscr (by omega)))⟩, ?_⟩
          unfold aLay
          rw [b_45, gd, i_i]
          simp only [show ¬ nI 1 = nI 2 by decide, false_and, Bool.and_self, ↓reduceIte]
      · skip
        have b_19 := bF c_19
        refine ex_iload_n (pc := 22) dX7_lay_22 rfl ?_
        refine ex_iconst (pc := 23) (v := (nI 2)) dX7_lay_23 (by decide) ?_
        refine bx_icmp_ne_t (pc := 24) (tgt := 38) dX7_lay_24 (by decide) (by decide) ?_
        refine ex_iconst (pc := 38) (v := (nI 0)) dX7_lay_38 (by decide) ?_
        refine sx_istore (pc := 39) dX7_lay_39 rfl (by decide) ?_
        show Ex _ _ _ _ _ _ [_, _, _, _, _, _, _] _ _ _
        refine ex_iload_n (pc := 41) dX7_lay_41 rfl ?_
        refine cx_SL1i (pc := 42) dX7_lay_42 lk_X7_384 rfl (Nat.le_of_ble_eq_true rfl) (Nat.le_of_ble_eq_true rfl) (by omega) (c_M_slB (by omega) _) (fun h_42 x_42 q_42 => ?_)
        obtain ⟨e_42, f_42⟩ := q_42
        rw [e_42, f_42]
        refine ex_if_eq (pc := 45) (tgt := 53) dX7_lay_45 (by decide) (fun c_45 => ?_) (fun c_45 => ?_)
        · skip
          have b_45 := bF c_45
          refine ex_ldc (pc := 53) dX7_lay_53 cn_X7_161 ?_
          refine ex_ret dX7_lay_55 rfl ?_
          have e1 : nLay s n S L q (nI 1) k = L := by simp [nLay, b_45]
          rw [e1]
          refine qi_mk ⟨⟨hL0, FrX.rf⟩, ?_⟩
          simp [aLay, b_45]
        · skip
          have b_45 := bT c_45
          obtain ⟨i, hi, rfl⟩ := bw_ex b_45
          have i_i : ixI (nI i) = i := iK (by omega)
          have hcs := hlk i hi
          refine ex_iload (pc := 48) dX7_lay_48 rfl ?_
          refine bx_if_ne_f (pc := 50) (tgt := 56) dX7_lay_50 (by decide) (rfl) ?_
          refine ex_ldc (pc := 53) dX7_lay_53 cn_X7_161 ?_
          refine ex_ret dX7_lay_55 rfl ?_
          have gd : gdL n (nI 1) k = false := by simp [gdL, show ¬ nI 1 = nI 0 by decide, show ¬ nI 1 = nI 2 by decide, show ¬ nI 1 = nI 3 by decide, b_19]
          have e1 : nLay s n S L (nI i) (nI 1) k = L := by simp [nLay, gd]
          rw [e1]
          refine qi_mk ⟨⟨hL0, FrX.rf⟩, ?_⟩
          simp [aLay, gd]
    · by_cases q2 : t = nI 2
      · subst q2
        refine ex_iload_n (pc := 0) dX7_lay_0 rfl ?_
        refine bx_if_eq_f (pc := 1) (tgt := 34) dX7_lay_1 (by decide) (by decide) ?_
        refine ex_iload_n (pc := 4) dX7_lay_4 rfl ?_
        refine ex_iconst (pc := 5) (v := (nI 3)) dX7_lay_5 (by decide) ?_
        refine bx_icmp_eq_f (pc := 6) (tgt := 34) dX7_lay_6 (by decide) (by decide) ?_
        refine ex_iload_n (pc := 9) dX7_lay_9 rfl ?_
        refine ex_iconst (pc := 10) (v := (nI 1)) dX7_lay_10 (by decide) ?_
        refine bx_icmp_ne_t (pc := 11) (tgt := 22) dX7_lay_11 (by decide) (by decide) ?_
        refine ex_iload_n (pc := 22) dX7_lay_22 rfl ?_
        refine ex_iconst (pc := 23) (v := (nI 2)) dX7_lay_23 (by decide) ?_
        refine bx_icmp_ne_f (pc := 24) (tgt := 38) dX7_lay_24 (by decide) (rfl) ?_
        refine ex_iload_n (pc := 27) dX7_lay_27 rfl ?_
        refine cx_SL1i (pc := 28) dX7_lay_28 lk_X7_369 rfl (Nat.le_of_ble_eq_true rfl) (Nat.le_of_ble_eq_true rfl) (by omega) (c_M_shB (by omega) _) (fun h_28 x_28 q_28 => ?_)
        obtain ⟨e_28, f_28⟩ := q_28
        rw [e_28, f_28]
        refine ex_if_eq (pc := 31) (tgt := 38) dX7_lay_31 (by decide) (fun c_31 => ?_) (fun c_31 => ?_)
        · skip
          have b_31 := bF c_31
          refine ex_iconst (pc := 38) (v := (nI 0)) dX7_lay_38 (by decide) ?_
          refine sx_istore (pc := 39) dX7_lay_39 rfl (by decide) ?_
          show Ex _ _ _ _ _ _ [_, _, _, _, _, _, _] _ _ _
          refine ex_iload_n (pc := 41) dX7_lay_41 rfl ?_
          refine cx_SL1i (pc := 42) dX7_lay_42 lk_X7_384 rfl (Nat.le_of_ble_eq_true rfl) (Nat.le_of_ble_eq_true rfl) (by omega) (c_M_slB (by omega) _) (fun h_42 x_42 q_42 => ?_)
          obtain ⟨e_42, f_42⟩ := q_42
          rw [e_42, f_42]
          refine ex_if_eq (pc := 45) (tgt := 53) dX7_lay_45 (by decide) (fun c_45 => ?_) (fun c_45 => ?_)
          · skip
            have b_45 := bF c_45
            refine ex_ldc (pc := 53) dX7_lay_53 cn_X7_161 ?_
            refine ex_ret dX7_lay_55 rfl ?_
            have e1 : nLay s n S L q (nI 2) k = L := by simp [nLay, b_45]
            rw [e1]
            refine qi_mk ⟨⟨hL0, FrX.rf⟩, ?_⟩
            simp [aLay, b_45]
          · skip
            have b_45 := bT c_45
            obtain ⟨i, hi, rfl⟩ := bw_ex b_45
            have i_i : ixI (nI i) = i := iK (by omega)
            have hcs := hlk i hi
            refine ex_iload (pc := 48) dX7_lay_48 rfl ?_
            refine bx_if_ne_f (pc := 50) (tgt := 56) dX7_lay_50 (by decide) (rfl) ?_
            refine ex_ldc (pc := 53) dX7_lay_53 cn_X7_161 ?_
            refine ex_ret dX7_lay_55 rfl ?_
            have gd : gdL n (nI 2) k = false := by simp [gdL, show ¬ nI 2 = nI 0 by decide, show ¬ nI 2 = nI 1 by decide, show ¬ nI 2 = nI 3 by decide, b_31]
            have e1 : nLay s n S L (nI i) (nI 2) k = L := by simp [nLay, gd]
            rw [e1]
            refine qi_mk ⟨⟨hL0, FrX.rf⟩, ?_⟩
            simp [aLay, gd]
        · skip
          have b_31 := bT c_31
          obtain ⟨u, hu, rfl⟩ := bw_ex b_31
          have i_u : ixI (nI u) = u := iK (by omega)
          refine ex_iconst (pc := 34) (v := (nI 1)) dX7_lay_34 (by decide) ?_
          refine ex_goto (pc := 35) (tgt := 39) dX7_lay_35 (by decide) ?_
          refine sx_istore (pc := 39) dX7_lay_39 rfl (by decide) ?_
          show Ex _ _ _ _ _ _ [_, _, _, _, _, _, _] _ _ _
          refine ex_iload_n (pc := 41) dX7_lay_41 rfl ?_
          refine cx_SL1i (pc := 42) dX7_lay_42 lk_X7_384 rfl (Nat.le_of_ble_eq_true rfl) (Nat.le_of_ble_eq_true rfl) (by omega) (c_M_slB (by omega) _) (fun h_42 x_42 q_42 => ?_)
          obtain ⟨e_42, f_42⟩ := q_42
          rw [e_42, f_42]
          refine ex_if_eq (pc := 45) (tgt := 53) dX7_lay_45 (by decide) (fun c_45 => ?_) (fun c_45 => ?_)
          · skip
            have b_45 := bF c_45
            refine ex_ldc (pc := 53) dX7_lay_53 cn_X7_161 ?_
            refine ex_ret dX7_lay_55 rfl ?_
            have e1 : nLay s n S L q (nI 2) (nI u) = L := by simp [nLay, b_45]
            rw [e1]
            refine qi_mk ⟨⟨hL0, FrX.rf⟩, ?_⟩
            simp [aLay, b_45]
          · skip
            have b_45 := bT c_45
            obtain ⟨i, hi, rfl⟩ := bw_ex b_45
            have i_i : ixI (nI i) = i := iK (by omega)
            have hcs := hlk i hi
            refine ex_iload (pc := 48) dX7_lay_48 rfl ?_
            refine bx_if_ne_t (pc := 50) (tgt := 56) dX7_lay_50 (by decide) (by decide) ?_
            refine ex_iload_n (pc := 56) dX7_lay_56 rfl ?_
            refine ex_iconst (pc := 57) (v := (nI 2)) dX7_lay_57 (by decide) ?_
            refine bx_icmp_ne_f (pc := 58) (tgt := 74) dX7_lay_58 (by decide) (rfl) ?_
            refine ex_aload_n (pc := 61) dX7_lay_61 rfl ?_
            refine ex_get (pc := 62) dX7_lay_62 fl_X7_19 hM.1 rfl ?_
            refine ex_iload_n (pc := 65) dX7_lay_65 rfl ?_
            refine ex_ildn (k := u) (pc := 66) dX7_lay_66 h79 rfl (by omega) (by decide) ?_
            rw [e79 u hu]
            refine ex_if_ge (pc := 67) (tgt := 74) dX7_lay_67 (by decide) (fun c_67 => ?_) (fun c_67 => ?_)
            · skip
              have k1 : ¬ S.1 u = -1 := (so_ge hO hu).mp c_67
              refine ex_aload_n (pc := 74) dX7_lay_74 rfl ?_
              refine ex_get (pc := 75) dX7_lay_75 fl_X7_28 hM.1 rfl ?_
              refine ex_iload_n (pc := 78) dX7_lay_78 rfl ?_
              refine ex_ildn (k := i) (pc := 79) dX7_lay_79 h82 rfl (by omega) (by decide) ?_
              rw [hcs.1]
              refine sx_istore (pc := 80) dX7_lay_80 rfl (by decide) ?_
              show Ex _ _ _ _ _ _ [_, _, _, _, _, _, _] _ _ _
              refine ex_aload_n (pc := 82) dX7_lay_82 rfl ?_
              refine ex_get (pc := 83) dX7_lay_83 fl_X7_28 hM.1 rfl ?_
              refine ex_iload_n (pc := 86) dX7_lay_86 rfl ?_
              refine ex_iload_n (pc := 87) dX7_lay_87 rfl ?_
              refine ex_istn (k := i) (pc := 88) dX7_lay_88 h82 rfl (by omega) (by decide) ?_
              refine ex_aload_n (pc := 89) dX7_lay_89 rfl ?_
              refine ex_get (pc := 90) dX7_lay_90 fl_X7_31 (gs_ne (by decide) hM.1) rfl ?_
              refine ex_iload_n (pc := 93) dX7_lay_93 rfl ?_
              refine ex_iload_n (pc := 94) dX7_lay_94 rfl ?_
              refine ex_iconst (pc := 95) (v := (nI 1)) dX7_lay_95 (by decide) ?_
              refine bx_icmp_ne_t (pc := 96) (tgt := 108) dX7_lay_96 (by decide) (by decide) ?_
              refine ex_iload_n (pc := 108) dX7_lay_108 rfl ?_
              refine ex_istn (k := i) (pc := 109) dX7_lay_109 (gs_ne (by decide) h83) rfl (by omega) (by decide) ?_
              refine ex_aload_n (pc := 110) dX7_lay_110 rfl ?_
              refine ex_get (pc := 111) dX7_lay_111 fl_X7_34 (gs_ne (by decide) (gs_ne (by decide) hM.1)) rfl ?_
              refine ex_iload_n (pc := 114) dX7_lay_114 rfl ?_
              refine ex_iload_n (pc := 115) dX7_lay_115 rfl ?_
              refine ex_iconst (pc := 116) (v := (nI 1)) dX7_lay_116 (by decide) ?_
              refine bx_icmp_ne_t (pc := 117) (tgt := 128) dX7_lay_117 (by decide) (by decide) ?_
              refine ex_iconst (pc := 128) (v := (nI 0)) dX7_lay_128 (by decide) ?_
              refine ex_istn (k := i) (pc := 129) dX7_lay_129 (gs_ne (by decide) (gs_ne (by decide) h84)) rfl (by omega) (by decide) ?_
              refine ex_iload_n (pc := 130) dX7_lay_130 rfl ?_
              refine ex_iconst (pc := 131) (v := (nI 2)) dX7_lay_131 (by decide) ?_
              refine bx_icmp_ne_f (pc := 132) (tgt := 187) dX7_lay_132 (by decide) (rfl) ?_
              refine ex_aload_n (pc := 135) dX7_lay_135 rfl ?_
              refine ex_get (pc := 136) dX7_lay_136 fl_X7_37 (gs_ne (by decide) (gs_ne (by decide) (gs_ne (by decide) hM.1))) rfl ?_
              refine ex_iload_n (pc := 139) dX7_lay_139 rfl ?_
              refine ex_aload_n (pc := 140) dX7_lay_140 rfl ?_
              refine ex_get (pc := 141) dX7_lay_141 fl_X7_22 (gs_ne (by decide) (gs_ne (by decide) (gs_ne (by decide) hM.1))) rfl ?_
              refine ex_iload_n (pc := 144) dX7_lay_144 rfl ?_
              refine ex_ildn (k := u) (pc := 145) dX7_lay_145 (gs_ne (by decide) (gs_ne (by decide) (gs_ne (by decide) h80))) rfl (by omega) (by decide) ?_
              rw [e80 u hu]
              refine ex_istn (k := i) (pc := 146) dX7_lay_146 (gs_ne (by decide) (gs_ne (by decide) (gs_ne (by decide) h85))) rfl (by omega) (by decide) ?_
              refine ex_iconst (pc := 147) (v := (nI 0)) dX7_lay_147 (by decide) ?_
              refine sx_istore (pc := 148) dX7_lay_148 rfl (by decide) ?_
              show Ex _ _ _ _ _ _ [_, _, _, _, _, _, _] _ _ _
              have gd : gdL n (nI 2) (nI u) = true := by simp [gdL, show ¬ nI 2 = nI 0 by decide, show ¬ nI 2 = nI 1 by decide, show ¬ nI 2 = nI 3 by decide, b_31]
              have i_t : ixI (nI 2) = 2 := by decide
              have e1 : nLay s n S L (nI i) (nI 2) (nI u) = setF L i (newSl s S 2 (nI u)) := by
                unfold nLay
                rw [b_45, gd, i_i, i_t]
                simp only [i_u, k1, and_false, Bool.and_self, ↓reduceIte]
              rw [e1]
              refine (c_M_lay_l (h := ((((h.set 82 (ia g 5 (upd f82 i (nI 2)))).set 83 (ia g 5 (upd f83 i ((nI u))))).set 84 (ia g 5 (upd f84 i (nI 0)))).set 85 (ia g 5 (upd f85 i (nI (S.2.1 u)))))) hi hu (f81 := f81) (f0 := f86) 24 0 _ (gs_ne (by decide) (gs_ne (by decide) (gs_ne (by decide) (gs_ne (by decide) hM.1)))) (gs_ne (by decide) (gs_ne (by decide) (gs_ne (by decide) (gs_ne (by decide) h81)))) FrX.rf f86 (gs_ne (by decide) (gs_ne (by decide) (gs_ne (by decide) (gs_ne (by decide) h86)))) (fun v hv j hj => by rw [if_neg (fun z => absurd z.2 (by omega))]) (by omega)).mono (fun h' r a => ?_)
              obtain ⟨x, e, ⟨f', q1, q2, q3⟩, q4⟩ := a
              have at4 : ∀ {k : Nat} {c : va_E}, k < 86 → ((((h.set 82 (ia g 5 (upd f82 i (nI 2)))).set 83 (ia g 5 (upd f83 i ((nI u))))).set 84 (ia g 5 (upd f84 i (nI 0)))).set 85 (ia g 5 (upd f85 i (nI (S.2.1 u)))))[k]? = some c → h'[k]? = some c := fun hk e => q3.at (by unfold c86; omega) (nscr (by omega)) e
              refine ⟨x, e, ⟨SltM.set hlk (at4 (by omega) (gs_ne (by decide) (gs_ne (by decide) (gs_ne (by decide) (gs_eq h82))))) (at4 (by omega) (gs_ne (by decide) (gs_ne (by decide) (gs_eq (gs_ne (by decide) h83))))) (at4 (by omega) (gs_ne (by decide) (gs_eq (gs_ne (by decide) (gs_ne (by decide) h84))))) (at4 (by omega) (gs_eq (gs_ne (by decide) (gs_ne (by decide) (gs_ne (by decide) h85))))) q1 (fun v hv e => ⟨upd_ne e, upd_ne e, upd_ne e, upd_ne e, fun j hj => by rw [q2 v hv j hj, if_neg e]⟩) ⟨upd_eq, fun z => absurd z (show ¬ ((2 : Nat) = 1 ∨ (2 : Nat) = 3) by decide), fun z => absurd z (show ¬ (2 : Nat) = 1 by decide), fun _ => ?_⟩, ?_⟩, ?_⟩
              · unfold newSl
                rw [if_neg (by decide), if_pos rfl, i_u, upd_eq]
                refine ⟨rfl, fun j hj => ?_⟩
                rw [q2 i hi j hj, if_pos rfl]
                exact e81 u hu j hj
              · exact FrX.tr (FrX.tr (FrX.tr (FrX.tr (FrX.st ⟨by omega, by omega⟩ (nscr (by omega))) (FrX.st ⟨by omega, by omega⟩ (nscr (by omega)))) (FrX.st ⟨by omega, by omega⟩ (nscr (by omega)))) (FrX.st ⟨by omega, by omega⟩ (nscr (by omega)))) (q3.mono (fun k hk => by unfold c86 at hk; unfold lmX; omega))
              · rw [q4]
                unfold aLay
                rw [b_45, gd, i_i]
                simp only [i_u, k1, and_false, Bool.and_self, ↓reduceIte]
            · skip
              have k1 : S.1 u = -1 := (so_neg hO hu).mp (Int32.not_le.mp c_67)
              refine ex_ldc_w (pc := 70) dX7_lay_70 cn_X7_373 ?_
              refine ex_ret dX7_lay_73 rfl ?_
              have gd : gdL n (nI 2) (nI u) = true := by simp [gdL, show ¬ nI 2 = nI 0 by decide, show ¬ nI 2 = nI 1 by decide, show ¬ nI 2 = nI 3 by decide, b_31]
              have i_t : ixI (nI 2) = 2 := by decide
              have e1 : nLay s n S L (nI i) (nI 2) (nI u) = L := by
                unfold nLay
                rw [b_45, gd, i_u]
                simp only [k1, and_self, Bool.and_self, ↓reduceIte]
              rw [e1]
              refine qi_mk ⟨⟨hL0, FrX.rf⟩, ?_⟩
              unfold aLay
              rw [b_45, gd, i_u]
              simp only [k1, and_self, Bool.and_self, ↓reduceIte]
      · by_cases q3 : t = nI 3
        · subst q3
          refine ex_iload_n (pc := 0) dX7_lay_0 rfl ?_
          refine bx_if_eq_f (pc := 1) (tgt := 34) dX7_lay_1 (by decide) (by decide) ?_
          refine ex_iload_n (pc := 4) dX7_lay_4 rfl ?_
          refine ex_iconst (pc := 5) (v := (nI 3)) dX7_lay_5 (by decide) ?_
          refine bx_icmp_eq_t (pc := 6) (tgt := 34) dX7_lay_6 (by decide) (rfl) ?_
          refine ex_iconst (pc := 34) (v := (nI 1)) dX7_lay_34 (by decide) ?_
          refine ex_goto (pc := 35) (tgt := 39) dX7_lay_35 (by decide) ?_
          refine sx_istore (pc := 39) dX7_lay_39 rfl (by decide) ?_
          show Ex _ _ _ _ _ _ [_, _, _, _, _, _, _] _ _ _
          refine ex_iload_n (pc := 41) dX7_lay_41 rfl ?_
          refine cx_SL1i (pc := 42) dX7_lay_42 lk_X7_384 rfl (Nat.le_of_ble_eq_true rfl) (Nat.le_of_ble_eq_true rfl) (by omega) (c_M_slB (by omega) _) (fun h_42 x_42 q_42 => ?_)
          obtain ⟨e_42, f_42⟩ := q_42
          rw [e_42, f_42]
          refine ex_if_eq (pc := 45) (tgt := 53) dX7_lay_45 (by decide) (fun c_45 => ?_) (fun c_45 => ?_)
          · skip
            have b_45 := bF c_45
            refine ex_ldc (pc := 53) dX7_lay_53 cn_X7_161 ?_
            refine ex_ret dX7_lay_55 rfl ?_
            have e1 : nLay s n S L q (nI 3) k = L := by simp [nLay, b_45]
            rw [e1]
            refine qi_mk ⟨⟨hL0, FrX.rf⟩, ?_⟩
            simp [aLay, b_45]
          · skip
            have b_45 := bT c_45
            obtain ⟨i, hi, rfl⟩ := bw_ex b_45
            have i_i : ixI (nI i) = i := iK (by omega)
            have hcs := hlk i hi
            refine ex_iload (pc := 48) dX7_lay_48 rfl ?_
            refine bx_if_ne_t (pc := 50) (tgt := 56) dX7_lay_50 (by decide) (by decide) ?_
            refine ex_iload_n (pc := 56) dX7_lay_56 rfl ?_
            refine ex_iconst (pc := 57) (v := (nI 2)) dX7_lay_57 (by decide) ?_
            refine bx_icmp_ne_t (pc := 58) (tgt := 74) dX7_lay_58 (by decide) (by decide) ?_
            refine ex_aload_n (pc := 74) dX7_lay_74 rfl ?_
            refine ex_get (pc := 75) dX7_lay_75 fl_X7_28 hM.1 rfl ?_
            refine ex_iload_n (pc := 78) dX7_lay_78 rfl ?_
            refine ex_ildn (k := i) (pc := 79) dX7_lay_79 h82 rfl (by omega) (by decide) ?_
            rw [hcs.1]
            refine sx_istore (pc := 80) dX7_lay_80 rfl (by decide) ?_
            show Ex _ _ _ _ _ _ [_, _, _, _, _, _, _] _ _ _
            refine ex_aload_n (pc := 82) dX7_lay_82 rfl ?_
            refine ex_get (pc := 83) dX7_lay_83 fl_X7_28 hM.1 rfl ?_
            refine ex_iload_n (pc := 86) dX7_lay_86 rfl ?_
            refine ex_iload_n (pc := 87) dX7_lay_87 rfl ?_
            refine ex_istn (k := i) (pc := 88) dX7_lay_88 h82 rfl (by omega) (by decide) ?_
            refine ex_aload_n (pc := 89) dX7_lay_89 rfl ?_
            refine ex_get (pc := 90) dX7_lay_90 fl_X7_31 (gs_ne (by decide) hM.1) rfl ?_
            refine ex_iload_n (pc := 93) dX7_lay_93 rfl ?_
            refine ex_iload_n (pc := 94) dX7_lay_94 rfl ?_
            refine ex_iconst (pc := 95) (v := (nI 1)) dX7_lay_95 (by decide) ?_
            refine bx_icmp_ne_t (pc := 96) (tgt := 108) dX7_lay_96 (by decide) (by decide) ?_
            refine ex_iload_n (pc := 108) dX7_lay_108 rfl ?_
            refine ex_istn (k := i) (pc := 109) dX7_lay_109 (gs_ne (by decide) h83) rfl (by omega) (by decide) ?_
            refine ex_aload_n (pc := 110) dX7_lay_110 rfl ?_
            refine ex_get (pc := 111) dX7_lay_111 fl_X7_34 (gs_ne (by decide) (gs_ne (by decide) hM.1)) rfl ?_
            refine ex_iload_n (pc := 114) dX7_lay_114 rfl ?_
            refine ex_iload_n (pc := 115) dX7_lay_115 rfl ?_
            refine ex_iconst (pc := 116) (v := (nI 1)) dX7_lay_116 (by decide) ?_
            refine bx_icmp_ne_t (pc := 117) (tgt := 128) dX7_lay_117 (by decide) (by decide) ?_
            refine ex_iconst (pc := 128) (v := (nI 0)) dX7_lay_128 (by decide) ?_
            refine ex_istn (k := i) (pc := 129) dX7_lay_129 (gs_ne (by decide) (gs_ne (by decide) h84)) rfl (by omega) (by decide) ?_
            refine ex_iload_n (pc := 130) dX7_lay_130 rfl ?_
            refine ex_iconst (pc := 131) (v := (nI 2)) dX7_lay_131 (by decide) ?_
            refine bx_icmp_ne_t (pc := 132) (tgt := 187) dX7_lay_132 (by decide) (by decide) ?_
            refine ex_iload (pc := 187) dX7_lay_187 rfl ?_
            refine ex_ret dX7_lay_189 rfl ?_
            have gd : gdL n (nI 3) k = true := by simp [gdL, show ¬ nI 3 = nI 0 by decide, show ¬ nI 3 = nI 1 by decide, show ¬ nI 3 = nI 2 by decide]
            have i_t : ixI (nI 3) = 3 := by decide
            have e1 : nLay s n S L (nI i) (nI 3) k = setF L i (newSl s S 3 k) := by
              unfold nLay
              rw [b_45, gd, i_i, i_t]
              simp only [show ¬ nI 3 = nI 2 by decide, false_and, Bool.and_self, ↓reduceIte]
            rw [e1]
            refine qi_mk ⟨⟨SltM.set hlk (gs_ne (by decide) (gs_ne (by decide) (gs_eq h82))) (gs_ne (by decide) (gs_eq (gs_ne (by decide) h83))) (gs_eq (gs_ne (by decide) (gs_ne (by decide) h84))) (gs_ne (by decide) (gs_ne (by decide) (gs_ne (by decide) h85))) (gs_ne (by decide) (gs_ne (by decide) (gs_ne (by decide) h86))) (fun v hv e => ⟨upd_ne e, upd_ne e, upd_ne e, rfl, fun j hj => rfl⟩) ⟨upd_eq, fun _ => upd_eq, fun z => absurd z (show ¬ (3 : Nat) = 1 by decide), fun z => absurd z (show ¬ (3 : Nat) = 2 by decide)⟩, FrX.tr (FrX.tr (FrX.st ⟨by omega, by omega⟩ (nscr (by omega))) (FrX.st ⟨by omega, by omega⟩ (nscr (by omega)))) (FrX.st ⟨by omega, by omega⟩ (nscr (by omega)))⟩, ?_⟩
            unfold aLay
            rw [b_45, gd, i_i]
            simp only [show ¬ nI 3 = nI 2 by decide, false_and, Bool.and_self, ↓reduceIte]
        · skip
          refine ex_iload_n (pc := 0) dX7_lay_0 rfl ?_
          refine bx_if_eq_f (pc := 1) (tgt := 34) dX7_lay_1 (by decide) (q0) ?_
          refine ex_iload_n (pc := 4) dX7_lay_4 rfl ?_
          refine ex_iconst (pc := 5) (v := (nI 3)) dX7_lay_5 (by decide) ?_
          refine bx_icmp_eq_f (pc := 6) (tgt := 34) dX7_lay_6 (by decide) (q3) ?_
          refine ex_iload_n (pc := 9) dX7_lay_9 rfl ?_
          refine ex_iconst (pc := 10) (v := (nI 1)) dX7_lay_10 (by decide) ?_
          refine bx_icmp_ne_t (pc := 11) (tgt := 22) dX7_lay_11 (by decide) (q1) ?_
          refine ex_iload_n (pc := 22) dX7_lay_22 rfl ?_
          refine ex_iconst (pc := 23) (v := (nI 2)) dX7_lay_23 (by decide) ?_
          refine bx_icmp_ne_t (pc := 24) (tgt := 38) dX7_lay_24 (by decide) (q2) ?_
          refine ex_iconst (pc := 38) (v := (nI 0)) dX7_lay_38 (by decide) ?_
          refine sx_istore (pc := 39) dX7_lay_39 rfl (by decide) ?_
          show Ex _ _ _ _ _ _ [_, _, _, _, _, _, _] _ _ _
          refine ex_iload_n (pc := 41) dX7_lay_41 rfl ?_
          refine cx_SL1i (pc := 42) dX7_lay_42 lk_X7_384 rfl (Nat.le_of_ble_eq_true rfl) (Nat.le_of_ble_eq_true rfl) (by omega) (c_M_slB (by omega) _) (fun h_42 x_42 q_42 => ?_)
          obtain ⟨e_42, f_42⟩ := q_42
          rw [e_42, f_42]
          refine ex_if_eq (pc := 45) (tgt := 53) dX7_lay_45 (by decide) (fun c_45 => ?_) (fun c_45 => ?_)
          · skip
            have b_45 := bF c_45
            refine ex_ldc (pc := 53) dX7_lay_53 cn_X7_161 ?_
            refine ex_ret dX7_lay_55 rfl ?_
            have e1 : nLay s n S L q t k = L := by simp [nLay, b_45]
            rw [e1]
            refine qi_mk ⟨⟨hL0, FrX.rf⟩, ?_⟩
            simp [aLay, b_45]
          · skip
            have b_45 := bT c_45
            refine ex_iload (pc := 48) dX7_lay_48 rfl ?_
            refine bx_if_ne_f (pc := 50) (tgt := 56) dX7_lay_50 (by decide) (rfl) ?_
            refine ex_ldc (pc := 53) dX7_lay_53 cn_X7_161 ?_
            refine ex_ret dX7_lay_55 rfl ?_
            have gd : gdL n t k = false := by simp [gdL, show ¬ t = nI 0 from q0, q1, q2, q3]
            have e1 : nLay s n S L q t k = L := by simp [nLay, gd]
            rw [e1]
            refine qi_mk ⟨⟨hL0, FrX.rf⟩, ?_⟩
            simp [aLay, gd]

/-! a piece of a sheet is copied: the reference -/
def cpX (k : Nat) : Prop := k = 81 ∨ k = 92
theorem lsum_le {a m sz : Nat} (ha : a < 2147483648) (hm : m < 2147483648) (hs : sz ≤ 24) : ((nI a).toInt64 + (nI m).toInt64 ≤ (nI sz).toInt64) ↔ a + m ≤ sz := by
  rw [nI_l ha, nI_l hm, nI_l (show sz < 2147483648 by omega), lN_add, Int64.le_iff_toInt_le]
  show (Int64.ofNat (a + m)).toInt ≤ (Int64.ofNat sz).toInt ↔ _
  rw [lg_ofNat_toInt (by omega), lg_ofNat_toInt (by omega)]
  omega
set_option maxHeartbeats 4000000 in
set_option maxRecDepth 100000 in
theorem c_M_copy_2 {g : Gl} {d ks : Nat} {h : AH} {z : Nat → Int32} {i t p1 a1 m1 : Nat} (ht : t < 4) (ha : a1 + m1 ≤ 24) {fc f0 : Nat → Int32} : ∀ (m k : Nat) (h1 : AH), h1[75]? = some (moC g z) → h1[92]? = some (ia g 24 fc) → FrX c81 g h h1 → ∀ (f : Nat → Int32), h1[81]? = some (ia g 96 f) → (∀ u, u < 4 → ∀ j, j < 24 → f (24 * u + j) = if u = t ∧ (a1 ≤ j ∧ j < a1 + k) then fc (j - a1) else f0 (24 * u + j)) → k + m = m1 → Ex g mX7_copy d 0 ks 150 [some (.ref (g.1 + 75)), some (.int (nI i)), some (.int (nI p1)), some (.int (nI t)), some (.int (nI a1)), some (.int (nI m1)), some (.int (nI (k)))] [] h1 (qi (fun h' r => (∃ f', h'[81]? = some (ia g 96 f') ∧ (∀ u, u < 4 → ∀ j, j < 24 → f' (24 * u + j) = if u = t ∧ (a1 ≤ j ∧ j < a1 + m1) then fc (j - a1) else f0 (24 * u + j))) ∧ FrX c81 g h h' ∧ r = nI m1)) := by
  intro m
  induction m with
  | zero =>
    intro k h1 hM h92 hF f h81 hf hk
    refine ex_iload (pc := 150) dX7_copy_150 rfl ?_
    refine ex_iload (pc := 152) dX7_copy_152 rfl ?_
    refine bx_icmp_ge_t (pc := 154) (tgt := 185) dX7_copy_154 (by decide) (by rw [show k = m1 by omega]; exact Int32.le_refl _) ?_
    refine ex_iload (pc := 185) dX7_copy_185 rfl ?_
    refine ex_ret dX7_copy_187 rfl ?_
    obtain rfl : k = m1 := by omega
    exact qi_mk ⟨⟨f, h81, hf⟩, hF, rfl⟩
  | succ m ih =>
    intro k h1 hM h92 hF f h81 hf hk
    refine ex_iload (pc := 150) dX7_copy_150 rfl ?_
    refine ex_iload (pc := 152) dX7_copy_152 rfl ?_
    refine bx_icmp_ge_f (pc := 154) (tgt := 185) dX7_copy_154 (by decide) (nI_ge (by omega) (by omega)) ?_
    refine ex_aload_n (pc := 157) dX7_copy_157 rfl ?_
    refine ex_get (pc := 158) dX7_copy_158 fl_X7_25 hM rfl ?_
    refine ex_bipush (pc := 161) (v := (nI 24)) dX7_copy_161 (by decide) ?_
    refine ex_iload_n (pc := 163) dX7_copy_163 rfl ?_
    refine ex_imul (pc := 164) dX7_copy_164 ?_
    refine ex_iload (pc := 165) dX7_copy_165 rfl ?_
    refine ex_iadd (pc := 167) dX7_copy_167 ?_
    refine ex_iload (pc := 168) dX7_copy_168 rfl ?_
    refine ex_iadd (pc := 170) dX7_copy_170 ?_
    rw [nI_mul, nI_add, nI_add]
    refine ex_aload_n (pc := 171) dX7_copy_171 rfl ?_
    refine ex_get (pc := 172) dX7_copy_172 fl_X7_59 hM rfl ?_
    refine ex_iload (pc := 175) dX7_copy_175 rfl ?_
    refine ex_ildn (k := k) (pc := 177) dX7_copy_177 h92 rfl (by omega) (by decide) ?_
    refine ex_istn (k := 24 * t + a1 + k) (pc := 178) dX7_copy_178 h81 rfl (by omega) (by decide) ?_
    first | refine sx_inc (pc := 179) dX7_copy_179 rfl rfl (by decide) ?_ | refine sx_iinc (pc := 179) dX7_copy_179 rfl rfl (by decide) ?_
    show Ex _ _ _ _ _ _ [_, _, _, _, _, _, _] _ _ _
    refine ex_goto (pc := 182) (tgt := 150) dX7_copy_182 (by decide) ?_
    exact ih (k + 1) _ (gs_ne (by decide) hM) (gs_ne (by decide) h92) (hF.tr (FrX.st rfl (nscr (by omega)))) _ (gs_eq h81) (fun u hu j hj => by
      by_cases e : 24 * u + j = 24 * t + a1 + k
      · rw [e, upd_eq, if_pos ⟨by omega, by omega, by omega⟩, show j - a1 = k by omega]
      · rw [upd_ne e, hf u hu j hj]
        by_cases q : u = t ∧ (a1 ≤ j ∧ j < a1 + k)
        · rw [if_pos q, if_pos ⟨q.1, q.2.1, by omega⟩]
        · rw [if_neg q, if_neg (fun z => q ⟨z.1, z.2.1, by have := z.1; have := z.2; omega⟩)]) (by omega)
set_option maxHeartbeats 4000000 in
set_option maxRecDepth 100000 in
theorem c_M_copy_1 {g : Gl} {d ks : Nat} {h : AH} {z : Nat → Int32} {i t p1 a1 m1 : Nat} (hi : i < 4) (ht : t < 4) (ha : a1 + m1 ≤ 24) (hp : p1 + m1 ≤ 24) {f0 : Nat → Int32} : ∀ (m k : Nat) (h1 : AH), h1[75]? = some (moC g z) → h1[81]? = some (ia g 96 f0) → FrX cpX g h h1 → ∀ (fc : Nat → Int32), h1[92]? = some (ia g 24 fc) → (∀ j, j < k → fc j = f0 (24 * i + p1 + j)) → k + m = m1 → Ex g mX7_copy d 0 ks 113 [some (.ref (g.1 + 75)), some (.int (nI i)), some (.int (nI p1)), some (.int (nI t)), some (.int (nI a1)), some (.int (nI m1)), some (.int (nI (k)))] [] h1 (qi (fun h' r => (∃ f', h'[81]? = some (ia g 96 f') ∧ (∀ u, u < 4 → ∀ j, j < 24 → f' (24 * u + j) = if u = t ∧ (a1 ≤ j ∧ j < a1 + m1) then f0 (24 * i + p1 + (j - a1)) else f0 (24 * u + j))) ∧ (∃ fc, h'[92]? = some (ia g 24 fc)) ∧ FrX cpX g h h' ∧ r = nI m1)) := by
  intro m
  induction m with
  | zero =>
    intro k h1 hM h81 hF fc h92 hf hk
    obtain rfl : m1 = k := by omega
    refine ex_iload (pc := 113) dX7_copy_113 rfl ?_
    refine ex_iload (pc := 115) dX7_copy_115 rfl ?_
    refine bx_icmp_ge_t (pc := 117) (tgt := 147) dX7_copy_117 (by decide) (by rw [show m1 = m1 by omega]; exact Int32.le_refl _) ?_
    refine ex_iconst (pc := 147) (v := (nI 0)) dX7_copy_147 (by decide) ?_
    refine sx_istore (pc := 148) dX7_copy_148 rfl (by decide) ?_
    show Ex _ _ _ _ _ _ [_, _, _, _, _, _, _] _ _ _
    refine (c_M_copy_2 (h := h1) (i := i) (p1 := p1) ht ha (fc := fc) (f0 := f0) m1 0 h1 hM h92 FrX.rf f0 h81 (fun u hu j hj => by rw [if_neg (fun z => absurd z.2.2 (by have := z.2.1; omega))]) (by omega)).mono (fun h' r a => ?_)
    obtain ⟨x, e, ⟨f', q1, q2⟩, q3, q4⟩ := a
    refine ⟨x, e, ⟨f', q1, fun u hu j hj => ?_⟩, ⟨fc, q3.at (by unfold c81; omega) (by unfold scr; omega) h92⟩, hF.tr (q3.mono (fun k hk => Or.inl hk)), q4⟩
    rw [q2 u hu j hj]
    by_cases e : u = t ∧ (a1 ≤ j ∧ j < a1 + m1)
    · rw [if_pos e, if_pos e]; exact hf (j - a1) (by omega)
    · rw [if_neg e, if_neg e]
  | succ m ih =>
    intro k h1 hM h81 hF fc h92 hf hk
    refine ex_iload (pc := 113) dX7_copy_113 rfl ?_
    refine ex_iload (pc := 115) dX7_copy_115 rfl ?_
    refine bx_icmp_ge_f (pc := 117) (tgt := 147) dX7_copy_117 (by decide) (nI_ge (by omega) (by omega)) ?_
    refine ex_aload_n (pc := 120) dX7_copy_120 rfl ?_
    refine ex_get (pc := 121) dX7_copy_121 fl_X7_59 hM rfl ?_
    refine ex_iload (pc := 124) dX7_copy_124 rfl ?_
    refine ex_aload_n (pc := 126) dX7_copy_126 rfl ?_
    refine ex_get (pc := 127) dX7_copy_127 fl_X7_25 hM rfl ?_
    refine ex_bipush (pc := 130) (v := (nI 24)) dX7_copy_130 (by decide) ?_
    refine ex_iload_n (pc := 132) dX7_copy_132 rfl ?_
    refine ex_imul (pc := 133) dX7_copy_133 ?_
    refine ex_iload_n (pc := 134) dX7_copy_134 rfl ?_
    refine ex_iadd (pc := 135) dX7_copy_135 ?_
    refine ex_iload (pc := 136) dX7_copy_136 rfl ?_
    refine ex_iadd (pc := 138) dX7_copy_138 ?_
    rw [nI_mul, nI_add, nI_add]
    refine ex_ildn (k := 24 * i + p1 + k) (pc := 139) dX7_copy_139 h81 rfl (by omega) (by decide) ?_
    refine ex_istn (k := k) (pc := 140) dX7_copy_140 h92 rfl (by omega) (by decide) ?_
    first | refine sx_inc (pc := 141) dX7_copy_141 rfl rfl (by decide) ?_ | refine sx_iinc (pc := 141) dX7_copy_141 rfl rfl (by decide) ?_
    show Ex _ _ _ _ _ _ [_, _, _, _, _, _, _] _ _ _
    refine ex_goto (pc := 144) (tgt := 113) dX7_copy_144 (by decide) ?_
    exact ih (k + 1) _ (gs_ne (by decide) hM) (gs_ne (by decide) h81) (hF.tr (FrX.st (Or.inr rfl) (by unfold scr; omega))) _ (gs_eq h92) (fun j hj => by
      by_cases e : j = k
      · subst e; exact upd_eq
      · rw [upd_ne e]; exact hf j (by omega)) (by omega)
set_option maxHeartbeats 4000000 in
set_option maxRecDepth 100000 in
theorem c_M_copy {g : Gl} {d ks : Nat} {h : AH} {z s : Nat → Int32} (hM : Ms g h z s) {S : Sht} (hS : ShtM g h S) (hO : SOk S) {fc0 : Nat → Int32} (h92 : h[92]? = some (ia g 24 fc0)) (hd : 2 ≤ d) (fr pl to a m : Int32) : Ex g mX7_copy d 0 ks 0 [some (.ref (g.1 + 75)), some (.int fr), some (.int pl), some (.int to), some (.int a), some (.int m), none] [] h (qi (fun h' r => (ShtM g h' (nCopy S fr pl to a m) ∧ (∃ fc, h'[92]? = some (ia g 24 fc)) ∧ FrX cpX g h h') ∧ r = aCopy S fr pl to a m)) := by
  have hS0 := hS
  obtain ⟨⟨f79, h79, e79⟩, ⟨f80, h80, e80⟩, f81, h81, e81⟩ := hS
  refine ex_iload_n (pc := 0) dX7_copy_0 rfl ?_
  refine cx_SL1i (pc := 1) dX7_copy_1 lk_X7_369 rfl (Nat.le_of_ble_eq_true rfl) (Nat.le_of_ble_eq_true rfl) (by omega) (c_M_shB (by omega) _) (fun h_1 x_1 q_1 => ?_)
  obtain ⟨e_1, f_1⟩ := q_1
  rw [e_1, f_1]
  refine ex_if_eq (pc := 4) (tgt := 14) dX7_copy_4 (by decide) (fun c_4 => ?_) (fun c_4 => ?_)
  · skip
    have b_4 := bF c_4
    refine ex_ldc (pc := 14) dX7_copy_14 cn_X7_161 ?_
    refine ex_ret dX7_copy_16 rfl ?_
    refine qi_mk ⟨?_, ?_⟩
    · have e1 : nCopy S fr pl to a m = S := by simp [nCopy, okCp, b_4]
      rw [e1]; exact ⟨hS0, ⟨fc0, h92⟩, FrX.rf⟩
    · simp [aCopy, b_4]
  · skip
    have b_4 := bT c_4
    refine ex_iload_n (pc := 7) dX7_copy_7 rfl ?_
    refine cx_SL1i (pc := 8) dX7_copy_8 lk_X7_369 rfl (Nat.le_of_ble_eq_true rfl) (Nat.le_of_ble_eq_true rfl) (by omega) (c_M_shB (by omega) _) (fun h_8 x_8 q_8 => ?_)
    obtain ⟨e_8, f_8⟩ := q_8
    rw [e_8, f_8]
    refine ex_if_ne (pc := 11) (tgt := 17) dX7_copy_11 (by decide) (fun c_11 => ?_) (fun c_11 => ?_)
    · skip
      have b_11 := bT c_11
      obtain ⟨i, hi, rfl⟩ := bw_ex b_4
      have i_i : ixI (nI i) = i := iK (by omega)
      obtain ⟨t, ht, rfl⟩ := bw_ex b_11
      have i_t : ixI (nI t) = t := iK (by omega)
      refine ex_aload_n (pc := 17) dX7_copy_17 rfl ?_
      refine ex_get (pc := 18) dX7_copy_18 fl_X7_19 hM.1 rfl ?_
      refine ex_iload_n (pc := 21) dX7_copy_21 rfl ?_
      refine ex_ildn (k := i) (pc := 22) dX7_copy_22 h79 rfl (by omega) (by decide) ?_
      rw [e79 i hi]
      refine ex_if_lt (pc := 23) (tgt := 35) dX7_copy_23 (by decide) (fun c_23 => ?_) (fun c_23 => ?_)
      · skip
        have k1 : S.1 i = -1 := (so_neg hO hi).mp c_23
        refine ex_ldc_w (pc := 35) dX7_copy_35 cn_X7_373 ?_
        refine ex_ret dX7_copy_38 rfl ?_
        refine qi_mk ⟨?_, ?_⟩
        · have e1 : nCopy S (nI i) pl (nI t) a m = S := by simp [nCopy, okCp, b_4, b_11, i_i, i_t, k1]
          rw [e1]; exact ⟨hS0, ⟨fc0, h92⟩, FrX.rf⟩
        · simp [aCopy, b_4, b_11, i_i, i_t, k1]
      · skip
        have k1 : ¬ S.1 i = -1 := fun e => c_23 ((so_neg hO hi).mpr e)
        refine ex_aload_n (pc := 26) dX7_copy_26 rfl ?_
        refine ex_get (pc := 27) dX7_copy_27 fl_X7_19 hM.1 rfl ?_
        refine ex_iload_n (pc := 30) dX7_copy_30 rfl ?_
        refine ex_ildn (k := t) (pc := 31) dX7_copy_31 h79 rfl (by omega) (by decide) ?_
        rw [e79 t ht]
        refine ex_if_ge (pc := 32) (tgt := 39) dX7_copy_32 (by decide) (fun c_32 => ?_) (fun c_32 => ?_)
        · skip
          have k2 : ¬ S.1 t = -1 := (so_ge hO ht).mp c_32
          refine ex_aload_n (pc := 39) dX7_copy_39 rfl ?_
          refine ex_get (pc := 40) dX7_copy_40 fl_X7_19 hM.1 rfl ?_
          refine ex_iload_n (pc := 43) dX7_copy_43 rfl ?_
          refine ex_ildn (k := i) (pc := 44) dX7_copy_44 h79 rfl (by omega) (by decide) ?_
          rw [e79 i hi]
          refine ex_aload_n (pc := 45) dX7_copy_45 rfl ?_
          refine ex_get (pc := 46) dX7_copy_46 fl_X7_19 hM.1 rfl ?_
          refine ex_iload_n (pc := 49) dX7_copy_49 rfl ?_
          refine ex_ildn (k := t) (pc := 50) dX7_copy_50 h79 rfl (by omega) (by decide) ?_
          rw [e79 t ht]
          refine ex_icmp_eq (pc := 51) (tgt := 57) dX7_copy_51 (by decide) (fun c_51 => ?_) (fun c_51 => ?_)
          · skip
            refine ex_iload_n (pc := 57) dX7_copy_57 rfl ?_
            refine ex_if_lt (pc := 58) (tgt := 106) dX7_copy_58 (by decide) (fun c_58 => ?_) (fun c_58 => ?_)
            · skip
              refine ex_ldc_w (pc := 106) dX7_copy_106 cn_X7_374 ?_
              refine ex_ret dX7_copy_109 rfl ?_
              have k4 : hpl (S.2.1 i) pl m = false := decide_eq_false (fun q => absurd c_58 (Int32.not_lt.mpr q.1))
              refine qi_mk ⟨?_, ?_⟩
              · have e1 : nCopy S (nI i) pl (nI t) a m = S := by simp [nCopy, okCp, b_4, b_11, i_i, i_t, k1, k2, c_51, k4]
                rw [e1]; exact ⟨hS0, ⟨fc0, h92⟩, FrX.rf⟩
              · simp [aCopy, b_4, b_11, i_i, i_t, k1, k2, c_51, k4]
            · skip
              refine ex_iload (pc := 61) dX7_copy_61 rfl ?_
              refine ex_if_lt (pc := 63) (tgt := 106) dX7_copy_63 (by decide) (fun c_63 => ?_) (fun c_63 => ?_)
              · skip
                refine ex_ldc_w (pc := 106) dX7_copy_106 cn_X7_374 ?_
                refine ex_ret dX7_copy_109 rfl ?_
                have k4 : hpl (S.2.1 t) a m = false := decide_eq_false (fun q => absurd c_63 (Int32.not_lt.mpr q.1))
                refine qi_mk ⟨?_, ?_⟩
                · have e1 : nCopy S (nI i) pl (nI t) a m = S := by simp [nCopy, okCp, b_4, b_11, i_i, i_t, k1, k2, c_51, k4]
                  rw [e1]; exact ⟨hS0, ⟨fc0, h92⟩, FrX.rf⟩
                · simp [aCopy, b_4, b_11, i_i, i_t, k1, k2, c_51, k4]
              · skip
                refine ex_iload (pc := 66) dX7_copy_66 rfl ?_
                refine ex_if_lt (pc := 68) (tgt := 106) dX7_copy_68 (by decide) (fun c_68 => ?_) (fun c_68 => ?_)
                · skip
                  refine ex_ldc_w (pc := 106) dX7_copy_106 cn_X7_374 ?_
                  refine ex_ret dX7_copy_109 rfl ?_
                  have k4 : hpl (S.2.1 i) pl m = false := decide_eq_false (fun q => absurd c_68 (Int32.not_lt.mpr q.2.1))
                  refine qi_mk ⟨?_, ?_⟩
                  · have e1 : nCopy S (nI i) pl (nI t) a m = S := by simp [nCopy, okCp, b_4, b_11, i_i, i_t, k1, k2, c_51, k4]
                    rw [e1]; exact ⟨hS0, ⟨fc0, h92⟩, FrX.rf⟩
                  · simp [aCopy, b_4, b_11, i_i, i_t, k1, k2, c_51, k4]
                · skip
                  obtain ⟨p1, hp1, rfl⟩ := nI_of c_58
                  obtain ⟨a1, ha1, rfl⟩ := nI_of c_63
                  obtain ⟨m1, hm1, rfl⟩ := nI_of c_68
                  refine ex_iload_n (pc := 71) dX7_copy_71 rfl ?_
                  refine ex_i2l (pc := 72) dX7_copy_72 ?_
                  refine ex_iload (pc := 73) dX7_copy_73 rfl ?_
                  refine ex_i2l (pc := 75) dX7_copy_75 ?_
                  refine ex_ladd (pc := 76) dX7_copy_76 ?_
                  refine ex_aload_n (pc := 77) dX7_copy_77 rfl ?_
                  refine ex_get (pc := 78) dX7_copy_78 fl_X7_22 hM.1 rfl ?_
                  refine ex_iload_n (pc := 81) dX7_copy_81 rfl ?_
                  refine ex_ildn (k := i) (pc := 82) dX7_copy_82 h80 rfl (by omega) (by decide) ?_
                  rw [e80 i hi]
                  refine ex_i2l (pc := 83) dX7_copy_83 ?_
                  refine ex_lcmp (pc := 84) dX7_copy_84 ?_
                  refine ex_if_gt (pc := 85) (tgt := 106) dX7_copy_85 (by decide) (fun c_85 => ?_) (fun c_85 => ?_)
                  · skip
                    refine ex_ldc_w (pc := 106) dX7_copy_106 cn_X7_374 ?_
                    refine ex_ret dX7_copy_109 rfl ?_
                    have k4 : hpl (S.2.1 i) (nI p1) (nI m1) = false := hpl_f hp1 hm1 (fun q => absurd ((lg_gt0 _ _).mp c_85) (Int64.not_lt.mpr ((lsum_le hp1 hm1 (hO i hi).2.1).mpr q))) (hO i hi).2.1
                    refine qi_mk ⟨?_, ?_⟩
                    · have e1 : nCopy S (nI i) (nI p1) (nI t) (nI a1) (nI m1) = S := by simp [nCopy, okCp, b_4, b_11, i_i, i_t, k1, k2, c_51, k4]
                      rw [e1]; exact ⟨hS0, ⟨fc0, h92⟩, FrX.rf⟩
                    · simp [aCopy, b_4, b_11, i_i, i_t, k1, k2, c_51, k4]
                  · skip
                    refine ex_iload (pc := 88) dX7_copy_88 rfl ?_
                    refine ex_i2l (pc := 90) dX7_copy_90 ?_
                    refine ex_iload (pc := 91) dX7_copy_91 rfl ?_
                    refine ex_i2l (pc := 93) dX7_copy_93 ?_
                    refine ex_ladd (pc := 94) dX7_copy_94 ?_
                    refine ex_aload_n (pc := 95) dX7_copy_95 rfl ?_
                    refine ex_get (pc := 96) dX7_copy_96 fl_X7_22 hM.1 rfl ?_
                    refine ex_iload_n (pc := 99) dX7_copy_99 rfl ?_
                    refine ex_ildn (k := t) (pc := 100) dX7_copy_100 h80 rfl (by omega) (by decide) ?_
                    rw [e80 t ht]
                    refine ex_i2l (pc := 101) dX7_copy_101 ?_
                    refine ex_lcmp (pc := 102) dX7_copy_102 ?_
                    refine ex_if_le (pc := 103) (tgt := 110) dX7_copy_103 (by decide) (fun c_103 => ?_) (fun c_103 => ?_)
                    · skip
                      refine ex_iconst (pc := 110) (v := (nI 0)) dX7_copy_110 (by decide) ?_
                      refine sx_istore (pc := 111) dX7_copy_111 rfl (by decide) ?_
                      show Ex _ _ _ _ _ _ [_, _, _, _, _, _, _] _ _ _
                      have g2 : p1 + m1 ≤ S.2.1 i := (lsum_le hp1 hm1 (hO i hi).2.1).mp (Int64.not_lt.mp (fun q => c_85 ((lg_gt0 _ _).mpr q)))
                      have g1 : a1 + m1 ≤ S.2.1 t := (lsum_le ha1 hm1 (hO t ht).2.1).mp ((lg_le0 _ _).mp c_103)
                      have hz1 := (hO i hi).2.1
                      have hz2 := (hO t ht).2.1
                      have k4 := hpl_t g2 hz1
                      have k5 := hpl_t g1 hz2
                      have i_p : ixI (nI p1) = p1 := iK hp1
                      have i_a : ixI (nI a1) = a1 := iK ha1
                      have i_m : ixI (nI m1) = m1 := iK hm1
                      have e1 : nCopy S (nI i) (nI p1) (nI t) (nI a1) (nI m1) = shW S t (S.1 t) (S.2.1 t) (va_cpy (S.2.2 i) (S.2.2 t) p1 a1 m1) := by
                        have kO : okCp S (nI i) (nI p1) (nI t) (nI a1) (nI m1) = true := by simp [okCp, b_4, b_11, i_i, i_t, k1, k2, c_51, k4, k5]
                        unfold nCopy
                        rw [if_pos kO, i_i, i_t, i_p, i_a, i_m]
                      rw [e1]
                      have u79 : ∀ (x : AH), x[79]? = some (ia g 4 f79) → x[79]? = some (ia g 4 (upd f79 t (S.1 t))) := fun x hx => by rw [← e79 t ht, show upd f79 t (f79 t) = f79 from upd_self _ _]; exact hx
                      have u80 : ∀ (x : AH), x[80]? = some (ia g 4 f80) → x[80]? = some (ia g 4 (upd f80 t (nI (S.2.1 t)))) := fun x hx => by rw [← e80 t ht, show upd f80 t (f80 t) = f80 from upd_self _ _]; exact hx
                      refine (c_M_copy_1 (h := h) hi ht (by omega) (by omega) m1 0 h hM.1 h81 FrX.rf fc0 h92 (fun j hj => absurd hj (by omega)) (by omega)).mono (fun h' r q => ?_)
                      obtain ⟨x, e, ⟨f', q1, q2⟩, q3, q4, q5⟩ := q
                      refine ⟨x, e, ⟨?_, q3, q4⟩, ?_⟩
                      · refine (ShtM.set (h := h') ht e79 e80 e81 FrX.rf (u79 _ (q4.at (by unfold cpX; omega) (nscr (by omega)) h79)) (u80 _ (q4.at (by unfold cpX; omega) (nscr (by omega)) h80)) q1 (fun u hu j hj => ?_)).1
                        rw [q2 u hu j hj]
                        unfold va_cpy
                        by_cases e : u = t
                        · subst e
                          rw [if_pos rfl]
                          by_cases e2 : a1 ≤ j ∧ j < a1 + m1
                          · rw [if_pos ⟨rfl, e2⟩, if_pos e2, show 24 * i + p1 + (j - a1) = 24 * i + (p1 + (j - a1)) by omega]; exact e81 i hi _ (by omega)
                          · rw [if_neg (fun z => e2 z.2), if_neg e2]; exact e81 u hu j hj
                        · rw [if_neg (fun z => e z.1), if_neg e]
                      · rw [q5]; simp [aCopy, b_4, b_11, i_i, i_t, k1, k2, c_51, k4, k5]
                    · skip
                      refine ex_ldc_w (pc := 106) dX7_copy_106 cn_X7_374 ?_
                      refine ex_ret dX7_copy_109 rfl ?_
                      have k4 : hpl (S.2.1 t) (nI a1) (nI m1) = false := hpl_f ha1 hm1 (fun q => c_103 ((lg_le0 _ _).mpr ((lsum_le ha1 hm1 (hO t ht).2.1).mpr q))) (hO t ht).2.1
                      refine qi_mk ⟨?_, ?_⟩
                      · have e1 : nCopy S (nI i) (nI p1) (nI t) (nI a1) (nI m1) = S := by simp [nCopy, okCp, b_4, b_11, i_i, i_t, k1, k2, c_51, k4]
                        rw [e1]; exact ⟨hS0, ⟨fc0, h92⟩, FrX.rf⟩
                      · simp [aCopy, b_4, b_11, i_i, i_t, k1, k2, c_51, k4]
          · skip
            refine ex_ldc (pc := 54) dX7_copy_54 cn_X7_187 ?_
            refine ex_ret dX7_copy_56 rfl ?_
            refine qi_mk ⟨?_, ?_⟩
            · have e1 : nCopy S (nI i) pl (nI t) a m = S := by simp [nCopy, okCp, b_4, b_11, i_i, i_t, k1, k2, c_51]
              rw [e1]; exact ⟨hS0, ⟨fc0, h92⟩, FrX.rf⟩
            · simp [aCopy, b_4, b_11, i_i, i_t, k1, k2, c_51]
        · skip
          have k2 : S.1 t = -1 := (so_neg hO ht).mp (Int32.not_le.mp c_32)
          refine ex_ldc_w (pc := 35) dX7_copy_35 cn_X7_373 ?_
          refine ex_ret dX7_copy_38 rfl ?_
          refine qi_mk ⟨?_, ?_⟩
          · have e1 : nCopy S (nI i) pl (nI t) a m = S := by simp [nCopy, okCp, b_4, b_11, i_i, i_t, k1, k2]
            rw [e1]; exact ⟨hS0, ⟨fc0, h92⟩, FrX.rf⟩
          · simp [aCopy, b_4, b_11, i_i, i_t, k1, k2]
    · skip
      have b_11 := bF c_11
      refine ex_ldc (pc := 14) dX7_copy_14 cn_X7_161 ?_
      refine ex_ret dX7_copy_16 rfl ?_
      refine qi_mk ⟨?_, ?_⟩
      · have e1 : nCopy S fr pl to a m = S := by simp [nCopy, okCp, b_4, b_11]
        rw [e1]; exact ⟨hS0, ⟨fc0, h92⟩, FrX.rf⟩
      · simp [aCopy, b_4, b_11]

/-! a place of a sheet is marked -/
def c16 (v : Int32) : Int32 := v.toInt16.toInt32
theorem c16_eq (v : Int32) : shr32 (shl32 v (nI 16)) (nI 16) = c16 v := by
  apply Int32.toBitVec_inj.mp
  have e1 : (shl32 v (nI 16)).toBitVec = v.toBitVec <<< 16 := by
    unfold shl32
    rw [Int32.toBitVec_shiftLeft, BitVec.shiftLeft_eq', s3_amt 16 (by decide)]
  have e2 : ∀ x : Int32, (shr32 x (nI 16)).toBitVec = x.toBitVec.sshiftRight 16 := by
    intro x
    unfold shr32
    rw [Int32.toBitVec_shiftRight, BitVec.sshiftRight_eq', s3_amt 16 (by decide)]
  rw [e2, e1]
  show _ = (v.toBitVec.signExtend 16).signExtend 32
  rw [BitVec.signExtend_eq_setWidth_of_le v.toBitVec (by decide)]
  apply BitVec.eq_of_getLsbD_eq
  intro i hi
  rw [BitVec.getLsbD_sshiftRight, BitVec.getLsbD_signExtend]
  have h1 : ¬ 32 ≤ i := by omega
  by_cases h : i < 16
  · have h2 : 16 + i < 32 := by omega
    have h3 : ¬ 16 + i < 16 := by omega
    simp [h, h1, h2, hi, h3, show i < 32 by omega]
  · have h2 : ¬ 16 + i < 32 := by omega
    simp [h, h1, h2, hi, BitVec.msb_eq_getLsbD_last]
theorem c16_rng (v : Int32) : ∃ z : Int, -32768 ≤ z ∧ z ≤ 32767 ∧ c16 v = iI z := by
  refine ⟨v.toInt16.toInt, ?_, ?_, ?_⟩
  · have := v.toInt16.le_toInt; simpa using this
  · have := v.toInt16.toInt_lt
    have e : (2 : Int) ^ 15 = 32768 := by decide
    omega
  · unfold c16
    apply Int32.toInt_inj.mp
    rw [Int16.toInt_toInt32, iI_toInt]
    · have := v.toInt16.le_toInt
      have e : (2 : Int) ^ 15 = 32768 := by decide
      omega
    · have := v.toInt16.toInt_lt
      have e : (2 : Int) ^ 15 = 32768 := by decide
      omega
def mkV (so v : Int32) : Int32 := if so = nI 1 then v else c16 v
def aMark (S : Sht) (sh p v : Int32) : Int32 := if bw sh 4 then (if S.1 (ixI sh) = -1 then -1000000011 else if bw p (S.2.1 (ixI sh)) then (if S.1 (ixI sh) = nI 1 then (if v = -1000000005 ∨ bz v (-99999) 99999 = true then 1 else -1000000001) else if v = -1000000005 then -1000000012 else 1) else -1000000013) else -1000000001
def nMark (S : Sht) (sh p v : Int32) : Sht := if aMark S sh p v = 1 then shW S (ixI sh) (S.1 (ixI sh)) (S.2.1 (ixI sh)) (upd (S.2.2 (ixI sh)) (ixI p) (mkV (S.1 (ixI sh)) v)) else S
theorem mk_no {S : Sht} {sh p v r : Int32} (h : aMark S sh p v = r) (hr : ¬ r = 1) : nMark S sh p v = S := by unfold nMark; rw [h, if_neg hr]
theorem mk_yes {S : Sht} {i j : Nat} {v : Int32} (hi : i < 4) (hj : j < 24) (h : aMark S (nI i) (nI j) v = 1) : nMark S (nI i) (nI j) v = shW S i (S.1 i) (S.2.1 i) (upd (S.2.2 i) j (mkV (S.1 i) v)) := by
  unfold nMark
  have i1 : ixI (nI i) = i := iK (by omega)
  have i2 : ixI (nI j) = j := iK (by omega)
  rw [if_pos h, i1, i2]
set_option maxHeartbeats 4000000 in
set_option maxRecDepth 100000 in
theorem c_W_mark {g : Gl} {d ks : Nat} {h : AH} {ik wc : Int32} (hW : h[0]? = some (wtC g ik wc)) {S : Sht} (hS : ShtC g h S) (hO : SOk S) (hd : 1 ≤ d) (sh p v : Int32) : Ex g mX6_mark d 0 ks 0 [some (.ref (g.1 + 0)), some (.int sh), some (.int p), some (.int v), none] [] h (qi (fun h' r => (ShtC g h' (nMark S sh p v) ∧ FrX shX g h h') ∧ r = aMark S sh p v)) := by
  have hS0 := hS
  obtain ⟨⟨fs, hfs, hfs2⟩, hsk⟩ := hS
  refine ex_iload_n (pc := 0) dX6_mark_0 rfl ?_
  refine ex_iconst (pc := 1) (v := (nI 4)) dX6_mark_1 (by decide) ?_
  refine cx_SL2i (pc := 2) dX6_mark_2 lk_X6_69 rfl (Nat.le_of_ble_eq_true rfl) (Nat.le_of_ble_eq_true rfl) (by omega) (c_ib _ _) (fun h_2 x_2 q_2 => ?_)
  obtain ⟨e_2, f_2⟩ := q_2
  rw [e_2, f_2]
  refine ex_if_ne (pc := 5) (tgt := 11) dX6_mark_5 (by decide) (fun c_5 => ?_) (fun c_5 => ?_)
  · skip
    have b_5 := bT c_5
    obtain ⟨i, hi, rfl⟩ := bw_ex b_5
    have i_i : ixI (nI i) = i := iK (by omega)
    obtain ⟨hs1, cf, hs2, hs3⟩ := hsk i hi
    refine ex_aload_n (pc := 11) dX6_mark_11 rfl ?_
    refine ex_get (pc := 12) dX6_mark_12 fl_X6_50 hW rfl ?_
    refine ex_iload_n (pc := 15) dX6_mark_15 rfl ?_
    refine ex_aldn (k := i) (v := .ref (g.1 + (47 + 2 * i))) (pc := 16) dX6_mark_16 rfl hfs rfl (by omega) (by decide) (congrArg va_rf (hfs2 i (by omega))) ?_
    refine sx_astore (pc := 17) dX6_mark_17 rfl (by decide) ?_
    show Ex _ _ _ _ _ _ [_, _, _, _, _] _ _ _
    refine ex_aload (pc := 19) dX6_mark_19 rfl ?_
    refine cx_VL0i (pc := 21) dX6_mark_21 lk_X6_227 hs1 rfl (Nat.le_of_ble_eq_true rfl) (Nat.le_of_ble_eq_true rfl) (by omega) (c_S_isMissing hs1) (fun h_21 x_21 q_21 => ?_)
    obtain ⟨e_21, f_21⟩ := q_21
    rw [e_21, f_21]
    refine ex_if_eq (pc := 24) (tgt := 30) dX6_mark_24 (by decide) (fun c_24 => ?_) (fun c_24 => ?_)
    · skip
      have k1 : ¬ S.1 i = -1 := bI_0.mp c_24
      refine ex_iload_n (pc := 30) dX6_mark_30 rfl ?_
      refine ex_aload (pc := 31) dX6_mark_31 rfl ?_
      refine ex_get (pc := 33) dX6_mark_33 fl_X6_285 hs1 rfl ?_
      refine cx_SL2i (pc := 36) dX6_mark_36 lk_X6_69 rfl (Nat.le_of_ble_eq_true rfl) (Nat.le_of_ble_eq_true rfl) (by omega) (c_ib _ _) (fun h_36 x_36 q_36 => ?_)
      obtain ⟨e_36, f_36⟩ := q_36
      rw [e_36, f_36]
      refine ex_if_ne (pc := 39) (tgt := 46) dX6_mark_39 (by decide) (fun c_39 => ?_) (fun c_39 => ?_)
      · skip
        have b_39 := bT c_39
        obtain ⟨j, hj, rfl⟩ := bw_ex b_39 (by have := (hO i hi).2.1; omega)
        have hj24 : j < 24 := by have := (hO i hi).2.1; omega
        have i_j : ixI (nI j) = j := iK (by omega)
        refine ex_aload (pc := 46) dX6_mark_46 rfl ?_
        refine ex_get (pc := 48) dX6_mark_48 fl_X6_289 hs1 rfl ?_
        refine ex_iconst (pc := 51) (v := (nI 1)) dX6_mark_51 (by decide) ?_
        refine ex_icmp_eq (pc := 52) (tgt := 75) dX6_mark_52 (by decide) (fun c_52 => ?_) (fun c_52 => ?_)
        · skip
          refine ex_iload_n (pc := 75) dX6_mark_75 rfl ?_
          refine ex_ldc (pc := 76) dX6_mark_76 cn_X6_142 ?_
          refine ex_icmp_eq (pc := 78) (tgt := 98) dX6_mark_78 (by decide) (fun c_78 => ?_) (fun c_78 => ?_)
          · skip
            refine ex_aload (pc := 98) dX6_mark_98 rfl ?_
            refine ex_get (pc := 100) dX6_mark_100 fl_X6_292 hs1 rfl ?_
            refine ex_iload_n (pc := 103) dX6_mark_103 rfl ?_
            refine ex_iload_n (pc := 104) dX6_mark_104 rfl ?_
            refine ex_istn (k := j) (pc := 105) dX6_mark_105 hs2 rfl hj24 (by decide) ?_
            refine ex_iconst (pc := 106) (v := 1) dX6_mark_106 (by decide) ?_
            refine ex_ret dX6_mark_107 rfl ?_
            have ea : aMark S (nI i) (nI j) v = 1 := by
              simp [aMark, b_5, i_i, k1, b_39, c_52, c_78, show ¬ nI 1 = -1 by decide]
            rw [mk_yes hi hj24 ea, ea]
            refine qi_mk ⟨hS0.set hi (FrX.st (Or.inr rfl) (nscr (by omega))) (gs_ne (by omega) hs1) (gs_eq hs2) (fun q hq => by
              by_cases e : q = j
              · subst e; rw [upd_eq, upd_eq, mkV, if_pos c_52]
              · rw [upd_ne e, upd_ne e]; exact hs3 q hq), rfl⟩
          · skip
            refine ex_iload_n (pc := 81) dX6_mark_81 rfl ?_
            refine ex_ldc_w (pc := 82) dX6_mark_82 cn_X6_295 ?_
            refine ex_icmp_lt (pc := 85) (tgt := 95) dX6_mark_85 (by decide) (fun c_85 => ?_) (fun c_85 => ?_)
            · skip
              refine ex_ldc (pc := 95) dX6_mark_95 cn_X6_73 ?_
              refine ex_ret dX6_mark_97 rfl ?_
              have k2 : bz v (-99999) 99999 = false := decide_eq_false (fun q => absurd c_85 (Int32.not_lt.mpr q.1))
              have ea : aMark S (nI i) (nI j) v = -1000000001 := by
                simp [aMark, b_5, i_i, k1, b_39, c_52, c_78, k2, show ¬ nI 1 = -1 by decide]
              rw [mk_no ea (by decide), ea]
              exact qi_mk ⟨⟨hS0, FrX.rf⟩, rfl⟩
            · skip
              refine ex_iload_n (pc := 88) dX6_mark_88 rfl ?_
              refine ex_ldc_w (pc := 89) dX6_mark_89 cn_X6_296 ?_
              refine ex_icmp_le (pc := 92) (tgt := 98) dX6_mark_92 (by decide) (fun c_92 => ?_) (fun c_92 => ?_)
              · skip
                refine ex_aload (pc := 98) dX6_mark_98 rfl ?_
                refine ex_get (pc := 100) dX6_mark_100 fl_X6_292 hs1 rfl ?_
                refine ex_iload_n (pc := 103) dX6_mark_103 rfl ?_
                refine ex_iload_n (pc := 104) dX6_mark_104 rfl ?_
                refine ex_istn (k := j) (pc := 105) dX6_mark_105 hs2 rfl hj24 (by decide) ?_
                refine ex_iconst (pc := 106) (v := 1) dX6_mark_106 (by decide) ?_
                refine ex_ret dX6_mark_107 rfl ?_
                have k2 : bz v (-99999) 99999 = true := decide_eq_true ⟨Int32.not_lt.mp c_85, c_92⟩
                have ea : aMark S (nI i) (nI j) v = 1 := by
                  simp [aMark, b_5, i_i, k1, b_39, c_52, k2, show ¬ nI 1 = -1 by decide]
                rw [mk_yes hi hj24 ea, ea]
                refine qi_mk ⟨hS0.set hi (FrX.st (Or.inr rfl) (nscr (by omega))) (gs_ne (by omega) hs1) (gs_eq hs2) (fun q hq => by
                  by_cases e : q = j
                  · subst e; rw [upd_eq, upd_eq, mkV, if_pos c_52]
                  · rw [upd_ne e, upd_ne e]; exact hs3 q hq), rfl⟩
              · skip
                refine ex_ldc (pc := 95) dX6_mark_95 cn_X6_73 ?_
                refine ex_ret dX6_mark_97 rfl ?_
                have k2 : bz v (-99999) 99999 = false := decide_eq_false (fun q => c_92 q.2)
                have ea : aMark S (nI i) (nI j) v = -1000000001 := by
                  simp [aMark, b_5, i_i, k1, b_39, c_52, c_78, k2, show ¬ nI 1 = -1 by decide]
                rw [mk_no ea (by decide), ea]
                exact qi_mk ⟨⟨hS0, FrX.rf⟩, rfl⟩
        · skip
          refine ex_iload_n (pc := 55) dX6_mark_55 rfl ?_
          refine ex_ldc (pc := 56) dX6_mark_56 cn_X6_142 ?_
          refine ex_icmp_ne (pc := 58) (tgt := 64) dX6_mark_58 (by decide) (fun c_58 => ?_) (fun c_58 => ?_)
          · skip
            refine ex_aload (pc := 64) dX6_mark_64 rfl ?_
            refine ex_get (pc := 66) dX6_mark_66 fl_X6_292 hs1 rfl ?_
            refine ex_iload_n (pc := 69) dX6_mark_69 rfl ?_
            refine ex_iload_n (pc := 70) dX6_mark_70 rfl ?_
            refine ex_i2s (pc := 71) dX6_mark_71 ?_
            refine ex_istn (k := j) (pc := 72) dX6_mark_72 hs2 rfl hj24 (by decide) ?_
            refine ex_iconst (pc := 73) (v := 1) dX6_mark_73 (by decide) ?_
            refine ex_ret dX6_mark_74 rfl ?_
            have ea : aMark S (nI i) (nI j) v = 1 := by
              simp [aMark, b_5, i_i, k1, b_39, c_52, c_58]
            rw [mk_yes hi hj24 ea, ea]
            refine qi_mk ⟨hS0.set hi (FrX.st (Or.inr rfl) (nscr (by omega))) (gs_ne (by omega) hs1) (gs_eq hs2) (fun q hq => by
              by_cases e : q = j
              · subst e; rw [upd_eq, upd_eq, mkV, if_neg c_52, c16]
              · rw [upd_ne e, upd_ne e]; exact hs3 q hq), rfl⟩
          · skip
            refine ex_ldc (pc := 61) dX6_mark_61 cn_X6_137 ?_
            refine ex_ret dX6_mark_63 rfl ?_
            have ea : aMark S (nI i) (nI j) v = -1000000012 := by
              simp [aMark, b_5, i_i, k1, b_39, c_52, c_58]
            rw [mk_no ea (by decide), ea]
            exact qi_mk ⟨⟨hS0, FrX.rf⟩, rfl⟩
      · skip
        have b_39 := bF c_39
        refine ex_ldc_w (pc := 42) dX6_mark_42 cn_X6_288 ?_
        refine ex_ret dX6_mark_45 rfl ?_
        have ea : aMark S (nI i) p v = -1000000013 := by
          simp [aMark, b_5, i_i, k1, b_39]
        rw [mk_no ea (by decide), ea]
        exact qi_mk ⟨⟨hS0, FrX.rf⟩, rfl⟩
    · skip
      have k1 : S.1 i = -1 := Decidable.not_not.mp (fun q => c_24 (bI_f q))
      refine ex_ldc (pc := 27) dX6_mark_27 cn_X6_230 ?_
      refine ex_ret dX6_mark_29 rfl ?_
      have ea : aMark S (nI i) p v = -1000000011 := by
        simp [aMark, b_5, i_i, k1]
      rw [mk_no ea (by decide), ea]
      exact qi_mk ⟨⟨hS0, FrX.rf⟩, rfl⟩
  · skip
    have b_5 := bF c_5
    refine ex_ldc (pc := 8) dX6_mark_8 cn_X6_73 ?_
    refine ex_ret dX6_mark_10 rfl ?_
    have ea : aMark S sh p v = -1000000001 := by
      simp [aMark, b_5]
    rw [mk_no ea (by decide), ea]
    exact qi_mk ⟨⟨hS0, FrX.rf⟩, rfl⟩
theorem upd_self (f : Nat → Int32) (i : Nat) : upd f i (f i) = f := by
  funext k
  by_cases e : k = i
  · subst e; exact upd_eq
  · exact upd_ne e
set_option maxHeartbeats 4000000 in
set_option maxRecDepth 100000 in
theorem c_M_mark {g : Gl} {d ks : Nat} {h : AH} {z s : Nat → Int32} (hM : Ms g h z s) {S : Sht} (hS : ShtM g h S) (hO : SOk S) (hd : 2 ≤ d) (sh p v : Int32) : Ex g mX7_mark d 0 ks 0 [some (.ref (g.1 + 75)), some (.int sh), some (.int p), some (.int v)] [] h (qi (fun h' r => (ShtM g h' (nMark S sh p v) ∧ FrX smX g h h') ∧ r = aMark S sh p v)) := by
  have hS0 := hS
  obtain ⟨⟨f79, h79, e79⟩, ⟨f80, h80, e80⟩, f81, h81, e81⟩ := hS
  refine ex_iload_n (pc := 0) dX7_mark_0 rfl ?_
  refine cx_SL1i (pc := 1) dX7_mark_1 lk_X7_369 rfl (Nat.le_of_ble_eq_true rfl) (Nat.le_of_ble_eq_true rfl) (by omega) (c_M_shB (by omega) _) (fun h_1 x_1 q_1 => ?_)
  obtain ⟨e_1, f_1⟩ := q_1
  rw [e_1, f_1]
  refine ex_if_ne (pc := 4) (tgt := 10) dX7_mark_4 (by decide) (fun c_4 => ?_) (fun c_4 => ?_)
  · skip
    have b_4 := bT c_4
    obtain ⟨i, hi, rfl⟩ := bw_ex b_4
    have i_i : ixI (nI i) = i := iK (by omega)
    refine ex_aload_n (pc := 10) dX7_mark_10 rfl ?_
    refine ex_get (pc := 11) dX7_mark_11 fl_X7_19 hM.1 rfl ?_
    refine ex_iload_n (pc := 14) dX7_mark_14 rfl ?_
    refine ex_ildn (k := i) (pc := 15) dX7_mark_15 h79 rfl (by omega) (by decide) ?_
    rw [e79 i hi]
    refine ex_if_ge (pc := 16) (tgt := 23) dX7_mark_16 (by decide) (fun c_16 => ?_) (fun c_16 => ?_)
    · skip
      have k1 : ¬ S.1 i = -1 := (so_ge hO hi).mp c_16
      have k3 : S.1 i = nI 0 ∨ S.1 i = nI 1 := (hO i hi).1.resolve_left k1
      refine ex_iload_n (pc := 23) dX7_mark_23 rfl ?_
      refine ex_i2l (pc := 24) dX7_mark_24 ?_
      refine ex_lconst (pc := 25) (v := 0) dX7_mark_25 (by decide) ?_
      refine ex_aload_n (pc := 26) dX7_mark_26 rfl ?_
      refine ex_get (pc := 27) dX7_mark_27 fl_X7_22 hM.1 rfl ?_
      refine ex_iload_n (pc := 30) dX7_mark_30 rfl ?_
      refine ex_ildn (k := i) (pc := 31) dX7_mark_31 h80 rfl (by omega) (by decide) ?_
      rw [e80 i hi]
      refine ex_iconst (pc := 32) (v := (nI 1)) dX7_mark_32 (by decide) ?_
      refine ex_isub (pc := 33) dX7_mark_33 ?_
      refine ex_i2l (pc := 34) dX7_mark_34 ?_
      refine cx_SL3i (pc := 35) dX7_mark_35 lk_X7_69 rfl (Nat.le_of_ble_eq_true rfl) (Nat.le_of_ble_eq_true rfl) (by omega) (c_M_inN _ (by have := (hO i hi).2.1; omega)) (fun h_35 x_35 q_35 => ?_)
      obtain ⟨e_35, f_35⟩ := q_35
      rw [e_35, f_35]
      refine ex_if_ne (pc := 38) (tgt := 45) dX7_mark_38 (by decide) (fun c_38 => ?_) (fun c_38 => ?_)
      · skip
        have b_38 := bT c_38
        obtain ⟨j, hj, rfl⟩ := bw_ex b_38 (by have := (hO i hi).2.1; omega)
        have hj24 : j < 24 := by have := (hO i hi).2.1; omega
        have i_j : ixI (nI j) = j := iK (by omega)
        refine ex_aload_n (pc := 45) dX7_mark_45 rfl ?_
        refine ex_get (pc := 46) dX7_mark_46 fl_X7_19 hM.1 rfl ?_
        refine ex_iload_n (pc := 49) dX7_mark_49 rfl ?_
        refine ex_ildn (k := i) (pc := 50) dX7_mark_50 h79 rfl (by omega) (by decide) ?_
        rw [e79 i hi]
        refine ex_if_ne (pc := 51) (tgt := 63) dX7_mark_51 (by decide) (fun c_51 => ?_) (fun c_51 => ?_)
        · skip
          have k4 : S.1 i = nI 1 := k3.resolve_left c_51
          refine ex_aload_n (pc := 63) dX7_mark_63 rfl ?_
          refine ex_get (pc := 64) dX7_mark_64 fl_X7_19 hM.1 rfl ?_
          refine ex_iload_n (pc := 67) dX7_mark_67 rfl ?_
          refine ex_ildn (k := i) (pc := 68) dX7_mark_68 h79 rfl (by omega) (by decide) ?_
          rw [e79 i hi]
          refine ex_iconst (pc := 69) (v := (nI 1)) dX7_mark_69 (by decide) ?_
          refine bx_icmp_ne_f (pc := 70) (tgt := 96) dX7_mark_70 (by decide) (k4) ?_
          refine ex_iload_n (pc := 73) dX7_mark_73 rfl ?_
          refine ex_ldc (pc := 74) dX7_mark_74 cn_X7_68 ?_
          refine ex_icmp_eq (pc := 76) (tgt := 96) dX7_mark_76 (by decide) (fun c_76 => ?_) (fun c_76 => ?_)
          · skip
            refine ex_aload_n (pc := 96) dX7_mark_96 rfl ?_
            refine ex_get (pc := 97) dX7_mark_97 fl_X7_25 hM.1 rfl ?_
            refine ex_bipush (pc := 100) (v := (nI 24)) dX7_mark_100 (by decide) ?_
            refine ex_iload_n (pc := 102) dX7_mark_102 rfl ?_
            refine ex_imul (pc := 103) dX7_mark_103 ?_
            refine ex_iload_n (pc := 104) dX7_mark_104 rfl ?_
            refine ex_iadd (pc := 105) dX7_mark_105 ?_
            rw [nI_mul, nI_add]
            refine ex_aload_n (pc := 106) dX7_mark_106 rfl ?_
            refine ex_get (pc := 107) dX7_mark_107 fl_X7_19 hM.1 rfl ?_
            refine ex_iload_n (pc := 110) dX7_mark_110 rfl ?_
            refine ex_ildn (k := i) (pc := 111) dX7_mark_111 h79 rfl (by omega) (by decide) ?_
            rw [e79 i hi]
            refine bx_if_ne_t (pc := 112) (tgt := 125) dX7_mark_112 (by decide) (by rw [k4]; decide) ?_
            refine ex_iload_n (pc := 125) dX7_mark_125 rfl ?_
            refine ex_istn (k := 24 * i + j) (pc := 126) dX7_mark_126 h81 rfl (by omega) (by decide) ?_
            refine ex_iconst (pc := 127) (v := 1) dX7_mark_127 (by decide) ?_
            refine ex_ret dX7_mark_128 rfl ?_
            have u79 : ∀ (x : AH), x[79]? = some (ia g 4 f79) → x[79]? = some (ia g 4 (upd f79 i (S.1 i))) := fun x hx => by rw [← e79 i hi, show upd f79 i (f79 i) = f79 from upd_self _ _]; exact hx
            have u80 : ∀ (x : AH), x[80]? = some (ia g 4 f80) → x[80]? = some (ia g 4 (upd f80 i (nI (S.2.1 i)))) := fun x hx => by rw [← e80 i hi, show upd f80 i (f80 i) = f80 from upd_self _ _]; exact hx
            have ea : aMark S (nI i) (nI j) v = 1 := by
              simp [aMark, b_4, i_i, k4, b_38, c_76, show ¬ nI 0 = nI 1 by decide, show ¬ nI 1 = nI 0 by decide, show ¬ nI 1 = -1 by decide, show ¬ nI 0 = -1 by decide]
            rw [mk_yes hi hj24 ea, ea]
            refine qi_mk ⟨ShtM.set hi e79 e80 e81 (FrX.st (Or.inr (Or.inr rfl)) (nscr (by omega))) (gs_ne (by decide) (u79 _ h79)) (gs_ne (by decide) (u80 _ h80)) (gs_eq h81) (fun u hu q hq => by
              by_cases e : u = i
              · subst e
                rw [if_pos rfl]
                by_cases e2 : q = j
                · subst e2; rw [upd_eq, upd_eq, mkV, if_pos k4]
                · rw [upd_ne (by omega), upd_ne e2]; exact e81 u hu q hq
              · rw [if_neg e, upd_ne (by omega)]), rfl⟩
          · skip
            refine ex_iload_n (pc := 79) dX7_mark_79 rfl ?_
            refine ex_i2l (pc := 80) dX7_mark_80 ?_
            refine ex_ldc2_w (pc := 81) dX7_mark_81 cn_X7_375 ?_
            refine ex_ldc2_w (pc := 84) dX7_mark_84 cn_X7_377 ?_
            refine cx_SL3i (pc := 87) dX7_mark_87 lk_X7_69 rfl (Nat.le_of_ble_eq_true rfl) (Nat.le_of_ble_eq_true rfl) (by omega) (c_M_inz _ (a := -99999) (b := 99999) (by decide) (by decide)) (fun h_87 x_87 q_87 => ?_)
            obtain ⟨e_87, f_87⟩ := q_87
            rw [e_87, f_87]
            refine ex_if_ne (pc := 90) (tgt := 96) dX7_mark_90 (by decide) (fun c_90 => ?_) (fun c_90 => ?_)
            · skip
              have b_90 := bT c_90
              refine ex_aload_n (pc := 96) dX7_mark_96 rfl ?_
              refine ex_get (pc := 97) dX7_mark_97 fl_X7_25 hM.1 rfl ?_
              refine ex_bipush (pc := 100) (v := (nI 24)) dX7_mark_100 (by decide) ?_
              refine ex_iload_n (pc := 102) dX7_mark_102 rfl ?_
              refine ex_imul (pc := 103) dX7_mark_103 ?_
              refine ex_iload_n (pc := 104) dX7_mark_104 rfl ?_
              refine ex_iadd (pc := 105) dX7_mark_105 ?_
              rw [nI_mul, nI_add]
              refine ex_aload_n (pc := 106) dX7_mark_106 rfl ?_
              refine ex_get (pc := 107) dX7_mark_107 fl_X7_19 hM.1 rfl ?_
              refine ex_iload_n (pc := 110) dX7_mark_110 rfl ?_
              refine ex_ildn (k := i) (pc := 111) dX7_mark_111 h79 rfl (by omega) (by decide) ?_
              rw [e79 i hi]
              refine bx_if_ne_t (pc := 112) (tgt := 125) dX7_mark_112 (by decide) (by rw [k4]; decide) ?_
              refine ex_iload_n (pc := 125) dX7_mark_125 rfl ?_
              refine ex_istn (k := 24 * i + j) (pc := 126) dX7_mark_126 h81 rfl (by omega) (by decide) ?_
              refine ex_iconst (pc := 127) (v := 1) dX7_mark_127 (by decide) ?_
              refine ex_ret dX7_mark_128 rfl ?_
              have u79 : ∀ (x : AH), x[79]? = some (ia g 4 f79) → x[79]? = some (ia g 4 (upd f79 i (S.1 i))) := fun x hx => by rw [← e79 i hi, show upd f79 i (f79 i) = f79 from upd_self _ _]; exact hx
              have u80 : ∀ (x : AH), x[80]? = some (ia g 4 f80) → x[80]? = some (ia g 4 (upd f80 i (nI (S.2.1 i)))) := fun x hx => by rw [← e80 i hi, show upd f80 i (f80 i) = f80 from upd_self _ _]; exact hx
              have ea : aMark S (nI i) (nI j) v = 1 := by
                simp [aMark, b_4, i_i, k4, b_38, b_90, show ¬ nI 0 = nI 1 by decide, show ¬ nI 1 = nI 0 by decide, show ¬ nI 1 = -1 by decide, show ¬ nI 0 = -1 by decide]
              rw [mk_yes hi hj24 ea, ea]
              refine qi_mk ⟨ShtM.set hi e79 e80 e81 (FrX.st (Or.inr (Or.inr rfl)) (nscr (by omega))) (gs_ne (by decide) (u79 _ h79)) (gs_ne (by decide) (u80 _ h80)) (gs_eq h81) (fun u hu q hq => by
                by_cases e : u = i
                · subst e
                  rw [if_pos rfl]
                  by_cases e2 : q = j
                  · subst e2; rw [upd_eq, upd_eq, mkV, if_pos k4]
                  · rw [upd_ne (by omega), upd_ne e2]; exact e81 u hu q hq
                · rw [if_neg e, upd_ne (by omega)]), rfl⟩
            · skip
              have b_90 := bF c_90
              refine ex_ldc (pc := 93) dX7_mark_93 cn_X7_161 ?_
              refine ex_ret dX7_mark_95 rfl ?_
              have ea : aMark S (nI i) (nI j) v = -1000000001 := by
                simp [aMark, b_4, i_i, k4, b_38, c_76, b_90, show ¬ nI 0 = nI 1 by decide, show ¬ nI 1 = nI 0 by decide, show ¬ nI 1 = -1 by decide, show ¬ nI 0 = -1 by decide]
              rw [mk_no ea (by decide), ea]
              exact qi_mk ⟨⟨hS0, FrX.rf⟩, rfl⟩
        · skip
          have k4 : S.1 i = nI 0 := c_51
          refine ex_iload_n (pc := 54) dX7_mark_54 rfl ?_
          refine ex_ldc (pc := 55) dX7_mark_55 cn_X7_68 ?_
          refine ex_icmp_ne (pc := 57) (tgt := 63) dX7_mark_57 (by decide) (fun c_57 => ?_) (fun c_57 => ?_)
          · skip
            refine ex_aload_n (pc := 63) dX7_mark_63 rfl ?_
            refine ex_get (pc := 64) dX7_mark_64 fl_X7_19 hM.1 rfl ?_
            refine ex_iload_n (pc := 67) dX7_mark_67 rfl ?_
            refine ex_ildn (k := i) (pc := 68) dX7_mark_68 h79 rfl (by omega) (by decide) ?_
            rw [e79 i hi]
            refine ex_iconst (pc := 69) (v := (nI 1)) dX7_mark_69 (by decide) ?_
            refine bx_icmp_ne_t (pc := 70) (tgt := 96) dX7_mark_70 (by decide) (by rw [k4]; decide) ?_
            refine ex_aload_n (pc := 96) dX7_mark_96 rfl ?_
            refine ex_get (pc := 97) dX7_mark_97 fl_X7_25 hM.1 rfl ?_
            refine ex_bipush (pc := 100) (v := (nI 24)) dX7_mark_100 (by decide) ?_
            refine ex_iload_n (pc := 102) dX7_mark_102 rfl ?_
            refine ex_imul (pc := 103) dX7_mark_103 ?_
            refine ex_iload_n (pc := 104) dX7_mark_104 rfl ?_
            refine ex_iadd (pc := 105) dX7_mark_105 ?_
            rw [nI_mul, nI_add]
            refine ex_aload_n (pc := 106) dX7_mark_106 rfl ?_
            refine ex_get (pc := 107) dX7_mark_107 fl_X7_19 hM.1 rfl ?_
            refine ex_iload_n (pc := 110) dX7_mark_110 rfl ?_
            refine ex_ildn (k := i) (pc := 111) dX7_mark_111 h79 rfl (by omega) (by decide) ?_
            rw [e79 i hi]
            refine bx_if_ne_f (pc := 112) (tgt := 125) dX7_mark_112 (by decide) (k4) ?_
            refine ex_iload_n (pc := 115) dX7_mark_115 rfl ?_
            refine ex_bipush (pc := 116) (v := (nI 16)) dX7_mark_116 (by decide) ?_
            refine ex_ishl (pc := 118) dX7_mark_118 ?_
            refine ex_bipush (pc := 119) (v := (nI 16)) dX7_mark_119 (by decide) ?_
            refine ex_ishr (pc := 121) dX7_mark_121 ?_
            refine ex_goto (pc := 122) (tgt := 126) dX7_mark_122 (by decide) ?_
            refine ex_istn (k := 24 * i + j) (pc := 126) dX7_mark_126 h81 rfl (by omega) (by decide) ?_
            refine ex_iconst (pc := 127) (v := 1) dX7_mark_127 (by decide) ?_
            refine ex_ret dX7_mark_128 rfl ?_
            have u79 : ∀ (x : AH), x[79]? = some (ia g 4 f79) → x[79]? = some (ia g 4 (upd f79 i (S.1 i))) := fun x hx => by rw [← e79 i hi, show upd f79 i (f79 i) = f79 from upd_self _ _]; exact hx
            have u80 : ∀ (x : AH), x[80]? = some (ia g 4 f80) → x[80]? = some (ia g 4 (upd f80 i (nI (S.2.1 i)))) := fun x hx => by rw [← e80 i hi, show upd f80 i (f80 i) = f80 from upd_self _ _]; exact hx
            rw [c16_eq]
            have ea : aMark S (nI i) (nI j) v = 1 := by
              simp [aMark, b_4, i_i, k4, b_38, c_57, show ¬ nI 0 = nI 1 by decide, show ¬ nI 1 = nI 0 by decide, show ¬ nI 1 = -1 by decide, show ¬ nI 0 = -1 by decide]
            rw [mk_yes hi hj24 ea, ea]
            refine qi_mk ⟨ShtM.set hi e79 e80 e81 (FrX.st (Or.inr (Or.inr rfl)) (nscr (by omega))) (gs_ne (by decide) (u79 _ h79)) (gs_ne (by decide) (u80 _ h80)) (gs_eq h81) (fun u hu q hq => by
              by_cases e : u = i
              · subst e
                rw [if_pos rfl]
                by_cases e2 : q = j
                · subst e2; rw [upd_eq, upd_eq, mkV, if_neg (by rw [k4]; decide)]
                · rw [upd_ne (by omega), upd_ne e2]; exact e81 u hu q hq
              · rw [if_neg e, upd_ne (by omega)]), rfl⟩
          · skip
            refine ex_ldc (pc := 60) dX7_mark_60 cn_X7_187 ?_
            refine ex_ret dX7_mark_62 rfl ?_
            have ea : aMark S (nI i) (nI j) v = -1000000012 := by
              simp [aMark, b_4, i_i, k4, b_38, c_57, show ¬ nI 0 = nI 1 by decide, show ¬ nI 1 = nI 0 by decide, show ¬ nI 1 = -1 by decide, show ¬ nI 0 = -1 by decide]
            rw [mk_no ea (by decide), ea]
            exact qi_mk ⟨⟨hS0, FrX.rf⟩, rfl⟩
      · skip
        have b_38 := bF c_38
        refine ex_ldc_w (pc := 41) dX7_mark_41 cn_X7_374 ?_
        refine ex_ret dX7_mark_44 rfl ?_
        have ea : aMark S (nI i) p v = -1000000013 := by
          simp [aMark, b_4, i_i, k1, b_38]
        rw [mk_no ea (by decide), ea]
        exact qi_mk ⟨⟨hS0, FrX.rf⟩, rfl⟩
    · skip
      have k1 : S.1 i = -1 := (so_neg hO hi).mp (Int32.not_le.mp c_16)
      refine ex_ldc_w (pc := 19) dX7_mark_19 cn_X7_373 ?_
      refine ex_ret dX7_mark_22 rfl ?_
      have ea : aMark S (nI i) p v = -1000000011 := by
        simp [aMark, b_4, i_i, k1]
      rw [mk_no ea (by decide), ea]
      exact qi_mk ⟨⟨hS0, FrX.rf⟩, rfl⟩
  · skip
    have b_4 := bF c_4
    refine ex_ldc (pc := 7) dX7_mark_7 cn_X7_161 ?_
    refine ex_ret dX7_mark_9 rfl ?_
    have ea : aMark S sh p v = -1000000001 := by
      simp [aMark, b_4]
    rw [mk_no ea (by decide), ea]
    exact qi_mk ⟨⟨hS0, FrX.rf⟩, rfl⟩

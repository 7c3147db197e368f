/-! whose tiredness told rows are: the calls -/
theorem bsL_lt {d : Nat → Int32} {k : Nat} (h : d (k + 1) < d (bsL d k)) : bsL d (k + 1) = k + 1 := by rw [bsL, if_pos h]
theorem bsL_ge {d : Nat → Int32} {k : Nat} (h : ¬ d (k + 1) < d (bsL d k)) : bsL d (k + 1) = bsL d k := by rw [bsL, if_neg h]
set_option maxHeartbeats 4000000 in
set_option maxRecDepth 100000 in
theorem c_W_like_l {g : Gl} {d ks : Nat} {h : AH} {ik wc : Int32} {s : Nat → Int32} {n : Nat} (hW : h[0]? = some (wtC g ik wc)) (hR : RoomB g h 1 s n) {fd : Nat → Int32} (h39 : h[39]? = some (ia g 8 fd)) {sh w : Int32} : ∀ (m k : Nat), k < n → k + 1 + m = n → Ex g mX6_like d 0 ks 62 [some (.ref (g.1 + 0)), some (.int sh), some (.int w), some (.int (nI (bsL fd (k)))), some (.int (nI (k + 1)))] [] h (qi (fun h' r => h' = h ∧ r = (if w = nI 0 then nI (bsL fd (n - 1)) else fd (bsL fd (n - 1))))) := by
  have hn8 := hR.2.2.1
  intro m
  induction m with
  | zero =>
    intro k hk hm
    refine ex_iload (pc := 62) dX6_like_62 rfl ?_
    refine ex_aload_n (pc := 64) dX6_like_64 rfl ?_
    refine ex_get (pc := 65) dX6_like_65 fl_X6_10 hW rfl ?_
    refine ex_get (pc := 68) dX6_like_68 fl_X6_79 hR.1 rfl ?_
    refine bx_icmp_ge_t (pc := 71) (tgt := 99) dX6_like_71 (by decide) (by rw [hR.2.1]; exact nI_le (by omega) (by omega)) ?_
    refine ex_iload_n (pc := 99) dX6_like_99 rfl ?_
    refine ex_if_ne (pc := 100) (tgt := 107) dX6_like_100 (by decide) (fun c_100 => ?_) (fun c_100 => ?_)
    · skip
      refine ex_aload_n (pc := 107) dX6_like_107 rfl ?_
      refine ex_get (pc := 108) dX6_like_108 fl_X6_37 hW rfl ?_
      refine ex_iload_n (pc := 111) dX6_like_111 rfl ?_
      refine ex_ildn (k := bsL fd k) (pc := 112) dX6_like_112 h39 rfl (by have := bsL_le (d := fd) k; omega) (by decide) ?_
      refine ex_ret dX6_like_113 rfl ?_
      obtain rfl : k = n - 1 := by omega
      refine qi_mk ⟨rfl, ?_⟩
      rw [if_neg (show ¬ w = nI 0 from c_100)]
    · skip
      refine ex_iload_n (pc := 103) dX6_like_103 rfl ?_
      refine ex_goto (pc := 104) (tgt := 113) dX6_like_104 (by decide) ?_
      refine ex_ret dX6_like_113 rfl ?_
      obtain rfl : k = n - 1 := by omega
      refine qi_mk ⟨rfl, ?_⟩
      rw [if_pos (show w = nI 0 from c_100)]
  | succ m ih =>
    intro k hk hm
    refine ex_iload (pc := 62) dX6_like_62 rfl ?_
    refine ex_aload_n (pc := 64) dX6_like_64 rfl ?_
    refine ex_get (pc := 65) dX6_like_65 fl_X6_10 hW rfl ?_
    refine ex_get (pc := 68) dX6_like_68 fl_X6_79 hR.1 rfl ?_
    refine bx_icmp_ge_f (pc := 71) (tgt := 99) dX6_like_71 (by decide) (by rw [hR.2.1]; exact nI_ge (by omega) (by omega)) ?_
    refine ex_aload_n (pc := 74) dX6_like_74 rfl ?_
    refine ex_get (pc := 75) dX6_like_75 fl_X6_37 hW rfl ?_
    refine ex_iload (pc := 78) dX6_like_78 rfl ?_
    refine ex_ildn (k := k + 1) (pc := 80) dX6_like_80 h39 rfl (by omega) (by decide) ?_
    refine ex_aload_n (pc := 81) dX6_like_81 rfl ?_
    refine ex_get (pc := 82) dX6_like_82 fl_X6_37 hW rfl ?_
    refine ex_iload_n (pc := 85) dX6_like_85 rfl ?_
    refine ex_ildn (k := bsL fd k) (pc := 86) dX6_like_86 h39 rfl (by have := bsL_le (d := fd) k; omega) (by decide) ?_
    refine ex_icmp_ge (pc := 87) (tgt := 93) dX6_like_87 (by decide) (fun c_87 => ?_) (fun c_87 => ?_)
    · skip
      first | refine sx_inc (pc := 93) dX6_like_93 rfl rfl (by decide) ?_ | refine sx_iinc (pc := 93) dX6_like_93 rfl rfl (by decide) ?_
      show Ex _ _ _ _ _ _ [_, _, _, _, _] _ _ _
      refine ex_goto (pc := 96) (tgt := 62) dX6_like_96 (by decide) ?_
      have z := ih (k + 1) (by omega) (by omega)
      rw [bsL_ge (Int32.not_lt.mpr c_87)] at z
      exact z
    · skip
      refine ex_iload (pc := 90) dX6_like_90 rfl ?_
      refine sx_istore_n (pc := 92) dX6_like_92 rfl (by decide) ?_
      show Ex _ _ _ _ _ _ [_, _, _, _, _] _ _ _
      first | refine sx_inc (pc := 93) dX6_like_93 rfl rfl (by decide) ?_ | refine sx_iinc (pc := 93) dX6_like_93 rfl rfl (by decide) ?_
      show Ex _ _ _ _ _ _ [_, _, _, _, _] _ _ _
      refine ex_goto (pc := 96) (tgt := 62) dX6_like_96 (by decide) ?_
      have z := ih (k + 1) (by omega) (by omega)
      rw [bsL_lt (Int32.not_le.mp c_87)] at z
      exact z
set_option maxHeartbeats 4000000 in
set_option maxRecDepth 100000 in
theorem c_W_like {g : Gl} {d ks : Nat} {h : AH} {ik wc : Int32} {s : Nat → Int32} {n nt : Nat} (hW : h[0]? = some (wtC g ik wc)) (hC : CR g h 1 s n nt) {S : Sht} (hS : ShtC g h S) (hO : SOk S) (hT : ThB g h) (hok : HOk s n) (htr : TRk s n) (hd : 6 ≤ d) (sh w : Int32) : Ex g mX6_like d 0 ks 0 [some (.ref (g.1 + 0)), some (.int sh), some (.int w), none, none] [] h (qi (fun h' r => (ThB g h' ∧ FrX thX g h h') ∧ r = aLike s n nt S sh w)) := by
  have hR := hC.1
  have hP := hC.2.1
  have hn8 := hP.2.1
  have hN := hR.2.1
  obtain ⟨fp, hfp, hfp2⟩ := hR.2.2.2.1
  obtain ⟨⟨fs, hfs, hfs2⟩, hsk⟩ := hS
  refine ex_iload_n (pc := 0) dX6_like_0 rfl ?_
  refine ex_iconst (pc := 1) (v := (nI 4)) dX6_like_1 (by decide) ?_
  refine cx_SL2i (pc := 2) dX6_like_2 lk_X6_69 rfl (Nat.le_of_ble_eq_true rfl) (Nat.le_of_ble_eq_true rfl) (by omega) (c_ib _ _) (fun h_2 x_2 q_2 => ?_)
  obtain ⟨e_2, f_2⟩ := q_2
  rw [e_2, f_2]
  refine ex_if_eq (pc := 5) (tgt := 16) dX6_like_5 (by decide) (fun c_5 => ?_) (fun c_5 => ?_)
  · skip
    have b_5 := bF c_5
    refine ex_ldc (pc := 16) dX6_like_16 cn_X6_73 ?_
    refine ex_ret dX6_like_18 rfl ?_
    refine qi_mk ⟨⟨hT, FrX.rf⟩, ?_⟩
    simp [aLike, b_5]
  · skip
    have b_5 := bT c_5
    refine ex_iload_n (pc := 8) dX6_like_8 rfl ?_
    refine ex_iconst (pc := 9) (v := (nI 2)) dX6_like_9 (by decide) ?_
    refine cx_SL2i (pc := 10) dX6_like_10 lk_X6_69 rfl (Nat.le_of_ble_eq_true rfl) (Nat.le_of_ble_eq_true rfl) (by omega) (c_ib _ _) (fun h_10 x_10 q_10 => ?_)
    obtain ⟨e_10, f_10⟩ := q_10
    rw [e_10, f_10]
    refine ex_if_ne (pc := 13) (tgt := 19) dX6_like_13 (by decide) (fun c_13 => ?_) (fun c_13 => ?_)
    · skip
      have b_13 := bT c_13
      obtain ⟨i, hi, rfl⟩ := bw_ex b_5
      have i_i : ixI (nI i) = i := iK (by omega)
      obtain ⟨hs1, cf, hs2, hs3⟩ := hsk i hi
      refine ex_aload_n (pc := 19) dX6_like_19 rfl ?_
      refine ex_get (pc := 20) dX6_like_20 fl_X6_50 hW rfl ?_
      refine ex_iload_n (pc := 23) dX6_like_23 rfl ?_
      refine ex_aldn (k := i) (v := .ref (g.1 + (47 + 2 * i))) (pc := 24) dX6_like_24 rfl hfs rfl (by omega) (by decide) (congrArg va_rf (hfs2 i (by omega))) ?_
      refine cx_VL0i (pc := 25) dX6_like_25 lk_X6_227 hs1 rfl (Nat.le_of_ble_eq_true rfl) (Nat.le_of_ble_eq_true rfl) (by omega) (c_S_isMissing hs1) (fun h_25 x_25 q_25 => ?_)
      obtain ⟨e_25, f_25⟩ := q_25
      rw [e_25, f_25]
      refine ex_if_eq (pc := 28) (tgt := 34) dX6_like_28 (by decide) (fun c_28 => ?_) (fun c_28 => ?_)
      · skip
        have k1 : ¬ S.1 i = -1 := bI_0.mp c_28
        refine ex_aload_n (pc := 34) dX6_like_34 rfl ?_
        refine ex_get (pc := 35) dX6_like_35 fl_X6_10 hW rfl ?_
        refine ex_get (pc := 38) dX6_like_38 fl_X6_79 hR.1 rfl ?_
        rw [hN]
        refine ex_if_ne (pc := 41) (tgt := 47) dX6_like_41 (by decide) (fun c_41 => ?_) (fun c_41 => ?_)
        · skip
          have hn0 : ¬ n = 0 := fun z => c_41 (by rw [z]; rfl)
          refine ex_aload_n (pc := 47) dX6_like_47 rfl ?_
          refine ex_aload_n (pc := 48) dX6_like_48 rfl ?_
          refine ex_get (pc := 49) dX6_like_49 fl_X6_50 hW rfl ?_
          refine ex_iload_n (pc := 52) dX6_like_52 rfl ?_
          refine ex_aldn (k := i) (v := .ref (g.1 + (47 + 2 * i))) (pc := 53) dX6_like_53 rfl hfs rfl (by omega) (by decide) (congrArg va_rf (hfs2 i (by omega))) ?_
          refine cx_VL1v (pc := 54) dX6_like_54 lk_X6_231 hW rfl (Nat.le_of_ble_eq_true rfl) (Nat.le_of_ble_eq_true rfl) (by omega) (c_W_sumDifferences hW hC hT hok htr (fun j hj => by rw [hs3 j hj]; exact (hO i hi).2.2 j hj) hi (hO i hi).2.1 hs1 hs2 (by omega)) (fun h_54 q_54 => ?_)
          obtain ⟨t1, t2, fd, t3, t4⟩ := q_54
          refine ex_iconst (pc := 57) (v := (nI 0)) dX6_like_57 (by decide) ?_
          refine sx_istore_n (pc := 58) dX6_like_58 rfl (by decide) ?_
          show Ex _ _ _ _ _ _ [_, _, _, _, _] _ _ _
          refine ex_iconst (pc := 59) (v := (nI 1)) dX6_like_59 (by decide) ?_
          refine sx_istore (pc := 60) dX6_like_60 rfl (by decide) ?_
          show Ex _ _ _ _ _ _ [_, _, _, _, _] _ _ _
          have ed : ∀ j, j ≤ n - 1 → fd j = lkD s n nt S i j := fun j hj => by
            rw [t4 j (by omega)]
            exact df_c _ (fun q hq => hs3 q (by have := (hO i hi).2.1; omega))
          refine (c_W_like_l (th_at t2 (by omega) (by omega) hW) (hC.thx t2).1 t3 (n - 1) 0 (by omega) (by omega)).mono (fun h' r a => ?_)
          obtain ⟨x, e, a1, a2⟩ := a
          rw [a1]
          refine ⟨x, e, ⟨t1, t2⟩, ?_⟩
          rw [a2]
          have eb := bsL_c (n - 1) ed
          have hb := bsL_le (d := lkD s n nt S i) (n - 1)
          rw [eb, ed _ hb]
          simp only [aLike, lkA, b_5, b_13, i_i, k1, hn0, Bool.and_self, Bool.and_true, Bool.true_and, Bool.and_false, Bool.false_and, Bool.or_true, Bool.true_or, Bool.or_false, Bool.false_or, Bool.not_true, Bool.not_false, Bool.false_eq_true, ↓reduceIte]
        · skip
          have hn0 : n = 0 := (nI_eq (by omega) (by omega)).mp c_41
          refine ex_ldc (pc := 44) dX6_like_44 cn_X6_142 ?_
          refine ex_ret dX6_like_46 rfl ?_
          refine qi_mk ⟨⟨hT, FrX.rf⟩, ?_⟩
          simp [aLike, b_5, b_13, i_i, k1, hn0, lkA]
      · skip
        have k1 : S.1 i = -1 := Decidable.not_not.mp (fun q => c_28 (bI_f q))
        refine ex_ldc (pc := 31) dX6_like_31 cn_X6_230 ?_
        refine ex_ret dX6_like_33 rfl ?_
        refine qi_mk ⟨⟨hT, FrX.rf⟩, ?_⟩
        simp [aLike, b_5, b_13, i_i, k1]
    · skip
      have b_13 := bF c_13
      refine ex_ldc (pc := 16) dX6_like_16 cn_X6_73 ?_
      refine ex_ret dX6_like_18 rfl ?_
      refine qi_mk ⟨⟨hT, FrX.rf⟩, ?_⟩
      simp [aLike, b_5, b_13]
set_option maxHeartbeats 4000000 in
set_option maxRecDepth 100000 in
theorem c_M_offBy_l {g : Gl} {d ks : Nat} {h : AH} {z s : Nat → Int32} {n nt : Nat} (hR : MR g h z s n nt) (hT : MT g h) (hok : HOk s n) {i p sz : Nat} (hi : i < 4) (hp : p < 8) (hsz : sz ≤ 24) {f80 f81 : Nat → Int32} (h80' : h[80]? = some (ia g 4 f80)) (e80 : f80 i = nI sz) (h81' : h[81]? = some (ia g 96 f81)) (hd : 8 ≤ d) {h1 : AH} {ff : Nat → Int32} (r1 : MR g h1 z s n nt) (u1 : FrX c88 g h h1) (h88b : h1[88]? = some (ia g 90 ff)) (hff : ∀ j, j < 90 → ff j = s j) : ∀ (m k : Nat) (l : Option Value) (h2 : AH), MR g h2 z (hrsS s nt n k) n nt → FrX mX g h1 h2 → k + m = sz → Ex g mX7_offBy d 0 ks 9 [some (.ref (g.1 + 75)), some (.int (nI i)), some (.int (nI p)), some (.int (dfF s n nt (fun j => f81 (24 * i + j)) p (k))), some (.int (nI (k))), l] [] h2 (qi (fun h' r => (MR g h' z s n nt ∧ MT g h' ∧ FrX mtX g h h') ∧ r = dfF s n nt (fun j => f81 (24 * i + j)) p sz)) := by
  intro m
  induction m with
  | zero =>
    intro k l h2 hR1 u2 hk
    have h80 := u2.at (by unfold mX; omega) (nscr (by omega)) (u1.at (by unfold c88; omega) (nscr (by omega)) h80')
    refine ex_iload (pc := 9) dX7_offBy_9 rfl ?_
    refine ex_aload_n (pc := 11) dX7_offBy_11 rfl ?_
    refine ex_get (pc := 12) dX7_offBy_12 fl_X7_22 hR1.1.1 rfl ?_
    refine ex_iload_n (pc := 15) dX7_offBy_15 rfl ?_
    refine ex_ildn (k := i) (pc := 16) dX7_offBy_16 h80 rfl (by omega) (by decide) ?_
    rw [e80]
    refine bx_icmp_ge_t (pc := 17) (tgt := 69) dX7_offBy_17 (by decide) (nI_le (by omega) (by omega)) ?_
    refine ex_aload_n (pc := 69) dX7_offBy_69 rfl ?_
    refine cx_VL0v (pc := 70) dX7_offBy_70 lk_X7_256 hR1.1.1 rfl (Nat.le_of_ble_eq_true rfl) (Nat.le_of_ble_eq_true rfl) (by omega) (c_M_laysBack hR1.1 (u2.at (by unfold mX; omega) (nscr (by omega)) h88b)) (fun h_70 q_70 => ?_)
    obtain ⟨r3, u3, e75⟩ := q_70
    refine ex_iload_n (pc := 73) dX7_offBy_73 rfl ?_
    refine ex_ret dX7_offBy_74 rfl ?_
    obtain rfl : k = sz := by omega
    exact qi_mk ⟨bk_back hR hT u1 h88b hff u2 (ms_75 r1.1 hR1.1) (hrs_ok hok k).2 r3 u3 e75, rfl⟩
  | succ m ih =>
    intro k l h2 hR1 u2 hk
    have h80 := u2.at (by unfold mX; omega) (nscr (by omega)) (u1.at (by unfold c88; omega) (nscr (by omega)) h80')
    have h81 := u2.at (by unfold mX; omega) (nscr (by omega)) (u1.at (by unfold c88; omega) (nscr (by omega)) h81')
    refine ex_iload (pc := 9) dX7_offBy_9 rfl ?_
    refine ex_aload_n (pc := 11) dX7_offBy_11 rfl ?_
    refine ex_get (pc := 12) dX7_offBy_12 fl_X7_22 hR1.1.1 rfl ?_
    refine ex_iload_n (pc := 15) dX7_offBy_15 rfl ?_
    refine ex_ildn (k := i) (pc := 16) dX7_offBy_16 h80 rfl (by omega) (by decide) ?_
    rw [e80]
    refine bx_icmp_ge_f (pc := 17) (tgt := 69) dX7_offBy_17 (by decide) (nI_ge (by omega) (by omega)) ?_
    refine ex_aload_n (pc := 20) dX7_offBy_20 rfl ?_
    refine ex_get (pc := 21) dX7_offBy_21 fl_X7_25 hR1.1.1 rfl ?_
    refine ex_bipush (pc := 24) (v := (nI 24)) dX7_offBy_24 (by decide) ?_
    refine ex_iload_n (pc := 26) dX7_offBy_26 rfl ?_
    refine ex_imul (pc := 27) dX7_offBy_27 ?_
    refine ex_iload (pc := 28) dX7_offBy_28 rfl ?_
    refine ex_iadd (pc := 30) dX7_offBy_30 ?_
    rw [nI_mul, nI_add]
    refine ex_ildn (k := 24 * i + k) (pc := 31) dX7_offBy_31 h81 rfl (by omega) (by decide) ?_
    refine sx_istore (pc := 32) dX7_offBy_32 rfl (by decide) ?_
    show Ex _ _ _ _ _ _ [_, _, _, _, _, _] _ _ _
    refine ex_iload_n (pc := 34) dX7_offBy_34 rfl ?_
    refine ex_iload (pc := 35) dX7_offBy_35 rfl ?_
    refine ex_ldc (pc := 37) dX7_offBy_37 cn_X7_68 ?_
    refine ex_icmp_ne (pc := 39) (tgt := 46) dX7_offBy_39 (by decide) (fun c_39 => ?_) (fun c_39 => ?_)
    · skip
      refine ex_iload (pc := 46) dX7_offBy_46 rfl ?_
      refine ex_aload_n (pc := 48) dX7_offBy_48 rfl ?_
      refine ex_iload_n (pc := 49) dX7_offBy_49 rfl ?_
      refine ex_iconst (pc := 50) (v := (nI 3)) dX7_offBy_50 (by decide) ?_
      refine cx_VL2i (pc := 51) dX7_offBy_51 lk_X7_76 hR1.1.1 rfl (Nat.le_of_ble_eq_true rfl) (Nat.le_of_ble_eq_true rfl) (by omega) (c_M_of hR1.1 (k := p) (f := 3) (by omega)) (fun h_51 x_51 q_51 => ?_)
      obtain ⟨e_51, f_51⟩ := q_51
      rw [e_51, f_51]
      refine cx_SL2i (pc := 54) dX7_offBy_54 lk_X7_104 rfl (Nat.le_of_ble_eq_true rfl) (Nat.le_of_ble_eq_true rfl) (by omega) (c_M_off _ _) (fun h_54 x_54 q_54 => ?_)
      obtain ⟨e_54, f_54⟩ := q_54
      rw [e_54, f_54]
      refine ex_iadd (pc := 57) dX7_offBy_57 ?_
      refine sx_istore_n (pc := 58) dX7_offBy_58 rfl (by decide) ?_
      show Ex _ _ _ _ _ _ [_, _, _, _, _, _] _ _ _
      refine ex_aload_n (pc := 59) dX7_offBy_59 rfl ?_
      refine cx_VL0v (pc := 60) dX7_offBy_60 lk_X7_237 hR1.1.1 rfl (Nat.le_of_ble_eq_true rfl) (Nat.le_of_ble_eq_true rfl) (by omega) (c_M_goesOn hR1 (hrs_ok hok k).1 (by omega)) (fun h_60 q_60 => ?_)
      obtain ⟨r4, u4⟩ := q_60
      first | refine sx_inc (pc := 63) dX7_offBy_63 rfl rfl (by decide) ?_ | refine sx_iinc (pc := 63) dX7_offBy_63 rfl rfl (by decide) ?_
      show Ex _ _ _ _ _ _ [_, _, _, _, _, _] _ _ _
      refine ex_goto (pc := 66) (tgt := 9) dX7_offBy_66 (by decide) ?_
      have z := ih (k + 1) (some (.int (f81 (24 * i + k)))) _ r4 (u2.tr u4) (by omega)
      rw [dfF, if_neg (show ¬ (fun j => f81 (24 * i + j)) k = -1000000005 from c_39)] at z
      exact z
    · skip
      refine ex_iconst (pc := 42) (v := (nI 0)) dX7_offBy_42 (by decide) ?_
      refine ex_goto (pc := 43) (tgt := 57) dX7_offBy_43 (by decide) ?_
      refine ex_iadd (pc := 57) dX7_offBy_57 ?_
      refine sx_istore_n (pc := 58) dX7_offBy_58 rfl (by decide) ?_
      show Ex _ _ _ _ _ _ [_, _, _, _, _, _] _ _ _
      refine ex_aload_n (pc := 59) dX7_offBy_59 rfl ?_
      refine cx_VL0v (pc := 60) dX7_offBy_60 lk_X7_237 hR1.1.1 rfl (Nat.le_of_ble_eq_true rfl) (Nat.le_of_ble_eq_true rfl) (by omega) (c_M_goesOn hR1 (hrs_ok hok k).1 (by omega)) (fun h_60 q_60 => ?_)
      obtain ⟨r4, u4⟩ := q_60
      first | refine sx_inc (pc := 63) dX7_offBy_63 rfl rfl (by decide) ?_ | refine sx_iinc (pc := 63) dX7_offBy_63 rfl rfl (by decide) ?_
      show Ex _ _ _ _ _ _ [_, _, _, _, _, _] _ _ _
      refine ex_goto (pc := 66) (tgt := 9) dX7_offBy_66 (by decide) ?_
      have z := ih (k + 1) (some (.int (f81 (24 * i + k)))) _ r4 (u2.tr u4) (by omega)
      rw [df_no (f := (fun j => f81 (24 * i + j))) (k := k) c_39] at z
      rw [add0I]
      exact z
set_option maxHeartbeats 4000000 in
set_option maxRecDepth 100000 in
theorem c_M_offBy {g : Gl} {d ks : Nat} {h : AH} {z s : Nat → Int32} {n nt : Nat} (hR : MR g h z s n nt) (hT : MT g h) (hok : HOk s n) {i p sz : Nat} (hi : i < 4) (hp : p < 8) (hsz : sz ≤ 24) {f80 f81 : Nat → Int32} (h80 : h[80]? = some (ia g 4 f80)) (e80 : f80 i = nI sz) (h81 : h[81]? = some (ia g 96 f81)) (hd : 8 ≤ d) : Ex g mX7_offBy d 0 ks 0 [some (.ref (g.1 + 75)), some (.int (nI i)), some (.int (nI p)), none, none, none] [] h (qi (fun h' r => (MR g h' z s n nt ∧ MT g h' ∧ FrX mtX g h h') ∧ r = dfF s n nt (fun j => f81 (24 * i + j)) p sz)) := by
  obtain ⟨f0, h88⟩ := hT.2.2.1
  refine ex_aload_n (pc := 0) dX7_offBy_0 rfl ?_
  refine cx_VL0v (pc := 1) dX7_offBy_1 lk_X7_253 hR.1.1 rfl (Nat.le_of_ble_eq_true rfl) (Nat.le_of_ble_eq_true rfl) (by omega) (c_M_laysBy hR h88) (fun h_1 q_1 => ?_)
  obtain ⟨r1, u1, ff, h88b, hff⟩ := q_1
  refine ex_iconst (pc := 4) (v := (nI 0)) dX7_offBy_4 (by decide) ?_
  refine sx_istore_n (pc := 5) dX7_offBy_5 rfl (by decide) ?_
  show Ex _ _ _ _ _ _ [_, _, _, _, _, _] _ _ _
  refine ex_iconst (pc := 6) (v := (nI 0)) dX7_offBy_6 (by decide) ?_
  refine sx_istore (pc := 7) dX7_offBy_7 rfl (by decide) ?_
  show Ex _ _ _ _ _ _ [_, _, _, _, _, _] _ _ _
  exact c_M_offBy_l hR hT hok hi hp hsz h80 e80 h81 hd r1 u1 h88b hff sz 0 none h_1 r1 FrX.rf (by omega)
def lb3 (d : Nat → Int32) (k : Nat) : Int32 := if k = 0 then -1 else nI (bsL d (k - 1))
def lb4 (d : Nat → Int32) (k : Nat) : Int32 := if k = 0 then nI 0 else d (bsL d (k - 1))
theorem lb_neg {d : Nat → Int32} {k : Nat} (hk : k ≤ 8) : (lb3 d k < 0) ↔ k = 0 := by
  unfold lb3
  by_cases h : k = 0
  · rw [if_pos h]; exact ⟨fun _ => h, fun _ => by decide⟩
  · rw [if_neg h]
    have := bsL_le (d := d) (k - 1)
    exact ⟨fun z => absurd z (nI_pos (by omega)), fun z => absurd z h⟩
theorem lb_up {d : Nat → Int32} {k : Nat} (h : k = 0 ∨ d k < lb4 d k) : lb3 d (k + 1) = nI k ∧ lb4 d (k + 1) = d k := by
  unfold lb3 lb4
  rw [if_neg (Nat.succ_ne_zero k), if_neg (Nat.succ_ne_zero k), Nat.add_sub_cancel]
  cases k with
  | zero => exact ⟨rfl, rfl⟩
  | succ k =>
    have q : d (k + 1) < d (bsL d k) := by
      have z := h.resolve_left (Nat.succ_ne_zero k)
      unfold lb4 at z
      rw [if_neg (Nat.succ_ne_zero k)] at z
      exact z
    rw [bsL_lt q]
    exact ⟨rfl, rfl⟩
theorem lb_no {d : Nat → Int32} {k : Nat} (h0 : ¬ k = 0) (h : ¬ d k < lb4 d k) : lb3 d (k + 1) = lb3 d k ∧ lb4 d (k + 1) = lb4 d k := by
  cases k with
  | zero => exact absurd rfl h0
  | succ k =>
    unfold lb4 at h
    rw [if_neg (Nat.succ_ne_zero k)] at h
    unfold lb3 lb4
    rw [if_neg (Nat.succ_ne_zero _), if_neg (Nat.succ_ne_zero _), if_neg (Nat.succ_ne_zero _), if_neg (Nat.succ_ne_zero _), Nat.add_sub_cancel, Nat.add_sub_cancel, bsL_ge h]
    exact ⟨rfl, rfl⟩
set_option maxHeartbeats 4000000 in
set_option maxRecDepth 100000 in
theorem c_M_like_l {g : Gl} {d ks : Nat} {h : AH} {z s : Nat → Int32} {n nt : Nat} (hn8 : n ≤ 8) (hok : HOk s n) {i sz : Nat} (hi : i < 4) (hsz : sz ≤ 24) {f80 f81 : Nat → Int32} (h80' : h[80]? = some (ia g 4 f80)) (e80 : f80 i = nI sz) (h81' : h[81]? = some (ia g 96 f81)) {D : Nat → Int32} (hD : ∀ p, p < 8 → dfF s n nt (fun j => f81 (24 * i + j)) p sz = D p) (w : Int32) (hd : 9 ≤ d) : ∀ (m k : Nat) (l : Option Value) (h1 : AH), MR g h1 z s n nt → MT g h1 → FrX mtX g h h1 → k + m = n → Ex g mX7_like d 0 ks 41 [some (.ref (g.1 + 75)), some (.int (nI i)), some (.int w), some (.int (lb3 D (k))), some (.int (lb4 D (k))), some (.int (nI (k))), l] [] h1 (qi (fun h' r => (MR g h' z s n nt ∧ MT g h' ∧ FrX mtX g h h') ∧ r = lkA D n w)) := by
  intro m
  induction m with
  | zero =>
    intro k l h1 hR1 hT1 hF hk
    refine ex_iload (pc := 41) dX7_like_41 rfl ?_
    refine ex_aload_n (pc := 43) dX7_like_43 rfl ?_
    refine ex_get (pc := 44) dX7_like_44 fl_X7_7 hR1.1.1 rfl ?_
    refine ex_iconst (pc := 47) (v := (nI 0)) dX7_like_47 (by decide) ?_
    refine ex_ildn (k := 0) (pc := 48) dX7_like_48 hR1.1.2 rfl (by decide) (by decide) ?_
    refine bx_icmp_ge_t (pc := 49) (tgt := 85) dX7_like_49 (by decide) (by rw [hR1.2.1.1]; exact nI_le (by omega) (by omega)) ?_
    refine ex_iload_n (pc := 85) dX7_like_85 rfl ?_
    refine ex_if_ge (pc := 86) (tgt := 94) dX7_like_86 (by decide) (fun c_86 => ?_) (fun c_86 => ?_)
    · skip
      refine ex_iload_n (pc := 94) dX7_like_94 rfl ?_
      refine ex_if_ne (pc := 95) (tgt := 102) dX7_like_95 (by decide) (fun c_95 => ?_) (fun c_95 => ?_)
      · skip
        refine ex_iload (pc := 102) dX7_like_102 rfl ?_
        refine ex_ret dX7_like_104 rfl ?_
        obtain rfl : k = n := by omega
        refine qi_mk ⟨⟨hR1, hT1, hF⟩, ?_⟩
        unfold lkA
        have h0 : ¬ k = 0 := fun e => absurd ((lb_neg (d := D) hn8).mpr e) (Int32.not_lt.mpr c_86)
        rw [if_neg h0]
        rw [if_neg (show ¬ w = nI 0 from c_95)]
        unfold lb4
        rw [if_neg h0]
      · skip
        refine ex_iload_n (pc := 98) dX7_like_98 rfl ?_
        refine ex_goto (pc := 99) (tgt := 104) dX7_like_99 (by decide) ?_
        refine ex_ret dX7_like_104 rfl ?_
        obtain rfl : k = n := by omega
        refine qi_mk ⟨⟨hR1, hT1, hF⟩, ?_⟩
        unfold lkA
        have h0 : ¬ k = 0 := fun e => absurd ((lb_neg (d := D) hn8).mpr e) (Int32.not_lt.mpr c_86)
        rw [if_neg h0]
        rw [if_pos (show w = nI 0 from c_95)]
        unfold lb3
        rw [if_neg h0]
    · skip
      refine ex_ldc (pc := 89) dX7_like_89 cn_X7_68 ?_
      refine ex_goto (pc := 91) (tgt := 104) dX7_like_91 (by decide) ?_
      refine ex_ret dX7_like_104 rfl ?_
      obtain rfl : k = n := by omega
      refine qi_mk ⟨⟨hR1, hT1, hF⟩, ?_⟩
      unfold lkA
      rw [if_pos ((lb_neg hn8).mp (Int32.not_le.mp c_86))]
  | succ m ih =>
    intro k l h1 hR1 hT1 hF hk
    have h80 := hF.at (by unfold mtX; omega) (nscr (by omega)) h80'
    have h81 := hF.at (by unfold mtX; omega) (nscr (by omega)) h81'
    refine ex_iload (pc := 41) dX7_like_41 rfl ?_
    refine ex_aload_n (pc := 43) dX7_like_43 rfl ?_
    refine ex_get (pc := 44) dX7_like_44 fl_X7_7 hR1.1.1 rfl ?_
    refine ex_iconst (pc := 47) (v := (nI 0)) dX7_like_47 (by decide) ?_
    refine ex_ildn (k := 0) (pc := 48) dX7_like_48 hR1.1.2 rfl (by decide) (by decide) ?_
    refine bx_icmp_ge_f (pc := 49) (tgt := 85) dX7_like_49 (by decide) (by rw [hR1.2.1.1]; exact nI_ge (by omega) (by omega)) ?_
    refine ex_aload_n (pc := 52) dX7_like_52 rfl ?_
    refine ex_iload_n (pc := 53) dX7_like_53 rfl ?_
    refine ex_iload (pc := 54) dX7_like_54 rfl ?_
    refine cx_VL2i (pc := 56) dX7_like_56 lk_X7_379 hR1.1.1 rfl (Nat.le_of_ble_eq_true rfl) (Nat.le_of_ble_eq_true rfl) (by omega) (c_M_offBy hR1 hT1 hok hi (show k < 8 by omega) hsz h80 e80 h81 (by omega)) (fun h_56 x_56 q_56 => ?_)
    obtain ⟨⟨m1, m2, m3⟩, f_56⟩ := q_56
    rw [f_56, hD k (by omega)]
    refine sx_istore (pc := 59) dX7_like_59 rfl (by decide) ?_
    show Ex _ _ _ _ _ _ [_, _, _, _, _, _, _] _ _ _
    refine ex_iload_n (pc := 61) dX7_like_61 rfl ?_
    refine ex_if_lt (pc := 62) (tgt := 72) dX7_like_62 (by decide) (fun c_62 => ?_) (fun c_62 => ?_)
    · skip
      refine ex_iload (pc := 72) dX7_like_72 rfl ?_
      refine sx_istore_n (pc := 74) dX7_like_74 rfl (by decide) ?_
      show Ex _ _ _ _ _ _ [_, _, _, _, _, _, _] _ _ _
      refine ex_iload (pc := 75) dX7_like_75 rfl ?_
      refine sx_istore (pc := 77) dX7_like_77 rfl (by decide) ?_
      show Ex _ _ _ _ _ _ [_, _, _, _, _, _, _] _ _ _
      first | refine sx_inc (pc := 79) dX7_like_79 rfl rfl (by decide) ?_ | refine sx_iinc (pc := 79) dX7_like_79 rfl rfl (by decide) ?_
      show Ex _ _ _ _ _ _ [_, _, _, _, _, _, _] _ _ _
      refine ex_goto (pc := 82) (tgt := 41) dX7_like_82 (by decide) ?_
      obtain ⟨q1, q2⟩ := lb_up (d := D) (k := k) (Or.inl ((lb_neg (by omega)).mp c_62))
      have z := ih (k + 1) (some (.int (D k))) _ m1 m2 (hF.tr m3) (by omega)
      rw [q1, q2] at z
      exact z
    · skip
      refine ex_iload (pc := 65) dX7_like_65 rfl ?_
      refine ex_iload (pc := 67) dX7_like_67 rfl ?_
      refine ex_icmp_ge (pc := 69) (tgt := 79) dX7_like_69 (by decide) (fun c_69 => ?_) (fun c_69 => ?_)
      · skip
        first | refine sx_inc (pc := 79) dX7_like_79 rfl rfl (by decide) ?_ | refine sx_iinc (pc := 79) dX7_like_79 rfl rfl (by decide) ?_
        show Ex _ _ _ _ _ _ [_, _, _, _, _, _, _] _ _ _
        refine ex_goto (pc := 82) (tgt := 41) dX7_like_82 (by decide) ?_
        obtain ⟨q1, q2⟩ := lb_no (d := D) (k := k) (fun e => c_62 ((lb_neg (by omega)).mpr e)) (Int32.not_lt.mpr c_69)
        have z := ih (k + 1) (some (.int (D k))) _ m1 m2 (hF.tr m3) (by omega)
        rw [q1, q2] at z
        exact z
      · skip
        refine ex_iload (pc := 72) dX7_like_72 rfl ?_
        refine sx_istore_n (pc := 74) dX7_like_74 rfl (by decide) ?_
        show Ex _ _ _ _ _ _ [_, _, _, _, _, _, _] _ _ _
        refine ex_iload (pc := 75) dX7_like_75 rfl ?_
        refine sx_istore (pc := 77) dX7_like_77 rfl (by decide) ?_
        show Ex _ _ _ _ _ _ [_, _, _, _, _, _, _] _ _ _
        first | refine sx_inc (pc := 79) dX7_like_79 rfl rfl (by decide) ?_ | refine sx_iinc (pc := 79) dX7_like_79 rfl rfl (by decide) ?_
        show Ex _ _ _ _ _ _ [_, _, _, _, _, _, _] _ _ _
        refine ex_goto (pc := 82) (tgt := 41) dX7_like_82 (by decide) ?_
        obtain ⟨q1, q2⟩ := lb_up (d := D) (k := k) (Or.inr (Int32.not_le.mp c_69))
        have z := ih (k + 1) (some (.int (D k))) _ m1 m2 (hF.tr m3) (by omega)
        rw [q1, q2] at z
        exact z
set_option maxHeartbeats 4000000 in
set_option maxRecDepth 100000 in
theorem c_M_like {g : Gl} {d ks : Nat} {h : AH} {z s : Nat → Int32} {n nt : Nat} (hR : MR g h z s n nt) {S : Sht} (hS : ShtM g h S) (hO : SOk S) (hT : MT g h) (hok : HOk s n) (hd : 9 ≤ d) (sh w : Int32) : Ex g mX7_like d 0 ks 0 [some (.ref (g.1 + 75)), some (.int sh), some (.int w), none, none, none, none] [] h (qi (fun h' r => (MR g h' z s n nt ∧ MT g h' ∧ FrX mtX g h h') ∧ r = aLike s n nt S sh w)) := by
  have hM := hR.1
  have hP := hR.2.1
  have hn8 := hP.2.1
  have hN := hP.1
  have hS0 := hS
  obtain ⟨⟨f79, h79, e79⟩, ⟨f80, h80, e80⟩, f81, h81, e81⟩ := hS
  refine ex_iload_n (pc := 0) dX7_like_0 rfl ?_
  refine cx_SL1i (pc := 1) dX7_like_1 lk_X7_369 rfl (Nat.le_of_ble_eq_true rfl) (Nat.le_of_ble_eq_true rfl) (by omega) (c_M_shB (by omega) _) (fun h_1 x_1 q_1 => ?_)
  obtain ⟨e_1, f_1⟩ := q_1
  rw [e_1, f_1]
  refine ex_if_eq (pc := 4) (tgt := 17) dX7_like_4 (by decide) (fun c_4 => ?_) (fun c_4 => ?_)
  · skip
    have b_4 := bF c_4
    refine ex_ldc (pc := 17) dX7_like_17 cn_X7_161 ?_
    refine ex_ret dX7_like_19 rfl ?_
    refine qi_mk ⟨⟨hR, hT, FrX.rf⟩, ?_⟩
    simp [aLike, b_4]
  · skip
    have b_4 := bT c_4
    refine ex_iload_n (pc := 7) dX7_like_7 rfl ?_
    refine ex_i2l (pc := 8) dX7_like_8 ?_
    refine ex_lconst (pc := 9) (v := 0) dX7_like_9 (by decide) ?_
    refine ex_lconst (pc := 10) (v := 1) dX7_like_10 (by decide) ?_
    refine cx_SL3i (pc := 11) dX7_like_11 lk_X7_69 rfl (Nat.le_of_ble_eq_true rfl) (Nat.le_of_ble_eq_true rfl) (by omega) (c_M_in _ (m := 2) (by decide)) (fun h_11 x_11 q_11 => ?_)
    obtain ⟨e_11, f_11⟩ := q_11
    rw [e_11, f_11]
    refine ex_if_ne (pc := 14) (tgt := 20) dX7_like_14 (by decide) (fun c_14 => ?_) (fun c_14 => ?_)
    · skip
      have b_14 := bT c_14
      obtain ⟨i, hi, rfl⟩ := bw_ex b_4
      have i_i : ixI (nI i) = i := iK (by omega)
      refine ex_aload_n (pc := 20) dX7_like_20 rfl ?_
      refine ex_get (pc := 21) dX7_like_21 fl_X7_19 hM.1 rfl ?_
      refine ex_iload_n (pc := 24) dX7_like_24 rfl ?_
      refine ex_ildn (k := i) (pc := 25) dX7_like_25 h79 rfl (by omega) (by decide) ?_
      rw [e79 i hi]
      refine ex_if_ge (pc := 26) (tgt := 33) dX7_like_26 (by decide) (fun c_26 => ?_) (fun c_26 => ?_)
      · skip
        have k1 : ¬ S.1 i = -1 := (so_ge hO hi).mp c_26
        refine ex_iconst (pc := 33) (v := (-1)) dX7_like_33 (by decide) ?_
        refine sx_istore_n (pc := 34) dX7_like_34 rfl (by decide) ?_
        show Ex _ _ _ _ _ _ [_, _, _, _, _, _, _] _ _ _
        refine ex_iconst (pc := 35) (v := (nI 0)) dX7_like_35 (by decide) ?_
        refine sx_istore (pc := 36) dX7_like_36 rfl (by decide) ?_
        show Ex _ _ _ _ _ _ [_, _, _, _, _, _, _] _ _ _
        refine ex_iconst (pc := 38) (v := (nI 0)) dX7_like_38 (by decide) ?_
        refine sx_istore (pc := 39) dX7_like_39 rfl (by decide) ?_
        show Ex _ _ _ _ _ _ [_, _, _, _, _, _, _] _ _ _
        have ed : ∀ q, q < 8 → dfF s n nt (fun j => f81 (24 * i + j)) q (S.2.1 i) = lkD s n nt S i q := fun q _ => df_c _ (fun j hj => e81 i hi j (by have := (hO i hi).2.1; omega))
        refine (c_M_like_l hn8 hok hi (hO i hi).2.1 h80 (e80 i hi) h81 ed w hd n 0 none h hR hT FrX.rf (by omega)).mono (fun h' r a => ?_)
        obtain ⟨x, e, a1, a2⟩ := a
        refine ⟨x, e, a1, ?_⟩
        rw [a2]
        simp only [aLike, b_4, b_14, i_i, k1, Bool.and_self, Bool.and_true, Bool.true_and, Bool.and_false, Bool.false_and, Bool.or_true, Bool.true_or, Bool.or_false, Bool.false_or, Bool.not_true, Bool.not_false, Bool.false_eq_true, ↓reduceIte]
      · skip
        have k1 : S.1 i = -1 := (so_neg hO hi).mp (Int32.not_le.mp c_26)
        refine ex_ldc_w (pc := 29) dX7_like_29 cn_X7_373 ?_
        refine ex_ret dX7_like_32 rfl ?_
        refine qi_mk ⟨⟨hR, hT, FrX.rf⟩, ?_⟩
        simp [aLike, b_4, b_14, i_i, k1]
    · skip
      have b_14 := bF c_14
      refine ex_ldc (pc := 17) dX7_like_17 cn_X7_161 ?_
      refine ex_ret dX7_like_19 rfl ?_
      refine qi_mk ⟨⟨hR, hT, FrX.rf⟩, ?_⟩
      simp [aLike, b_4, b_14]

/-! what a slot holds is asked for -/
def aAsk (L : Nat → Slt) (q kd : Int32) : Int32 := if bw q 5 && bw kd 6 then (if (L (ixI q)).1 = 0 then -1000000011 else if (L (ixI q)).1 = 1 ∧ isO (L (ixI q)).2.1 kd = true then (L (ixI q)).2.2.1 else -1000000012) else -1000000001
def aItem (L : Nat → Slt) (q p : Int32) : Int32 := if bw q 5 then (if (L (ixI q)).1 = 0 then -1000000011 else if (L (ixI q)).1 = 2 then (if bw p (L (ixI q)).2.2.2.1 then (if (L (ixI q)).2.2.2.2 (ixI p) = -1000000005 then -1000000012 else (L (ixI q)).2.2.2.2 (ixI p)) else -1000000013) else -1000000012) else -1000000001
def aRest (L : Nat → Slt) (q n : Int32) : Int32 := if bw q 5 then (if (L (ixI q)).1 = 0 then -1000000011 else if (L (ixI q)).1 = 3 then (if n = 0 then -1000000002 else rm32 (L (ixI q)).2.1 n) else -1000000012) else -1000000001
theorem ho_eq {a j : Nat} (ha : a < 4) (hj : j < 4) : (nI a = nI j) ↔ a = j := nI_eq (by omega) (by omega)
set_option maxHeartbeats 4000000 in
set_option maxRecDepth 100000 in
theorem c_W_ask {g : Gl} {d ks : Nat} {h : AH} {ik wc : Int32} (hW : h[0]? = some (wtC g ik wc)) {L : Nat → Slt} (hL : SltC g h L) (hK : LOk L) (hd : 2 ≤ d) (q kd : Int32) : Ex g mX6_ask d 0 ks 0 [some (.ref (g.1 + 0)), some (.int q), some (.int kd), none] [] h (qi (fun h' r => h' = h ∧ r = aAsk L q kd)) := by
  obtain ⟨⟨fl, hls, hls2⟩, hlk⟩ := hL
  refine ex_iload_n (pc := 0) dX6_ask_0 rfl ?_
  refine ex_iconst (pc := 1) (v := (nI 5)) dX6_ask_1 (by decide) ?_
  refine cx_SL2i (pc := 2) dX6_ask_2 lk_X6_69 rfl (Nat.le_of_ble_eq_true rfl) (Nat.le_of_ble_eq_true rfl) (by omega) (c_ib _ _) (fun h_2 x_2 q_2 => ?_)
  obtain ⟨e_2, f_2⟩ := q_2
  rw [e_2, f_2]
  refine ex_if_eq (pc := 5) (tgt := 17) dX6_ask_5 (by decide) (fun c_5 => ?_) (fun c_5 => ?_)
  · skip
    have b_5 := bF c_5
    refine ex_ldc (pc := 17) dX6_ask_17 cn_X6_73 ?_
    refine ex_ret dX6_ask_19 rfl ?_
    refine qi_mk ⟨rfl, ?_⟩
    simp [aAsk, b_5]
  · skip
    have b_5 := bT c_5
    refine ex_iload_n (pc := 8) dX6_ask_8 rfl ?_
    refine ex_bipush (pc := 9) (v := (nI 6)) dX6_ask_9 (by decide) ?_
    refine cx_SL2i (pc := 11) dX6_ask_11 lk_X6_69 rfl (Nat.le_of_ble_eq_true rfl) (Nat.le_of_ble_eq_true rfl) (by omega) (c_ib _ _) (fun h_11 x_11 q_11 => ?_)
    obtain ⟨e_11, f_11⟩ := q_11
    rw [e_11, f_11]
    refine ex_if_ne (pc := 14) (tgt := 20) dX6_ask_14 (by decide) (fun c_14 => ?_) (fun c_14 => ?_)
    · skip
      have b_14 := bT c_14
      obtain ⟨i, hi, rfl⟩ := bw_ex b_5
      have i_i : ixI (nI i) = i := iK (by omega)
      obtain ⟨nu, kd0, ce, si, ti, so, sz, cf, a1, a2, a3, a4, a5, a6, a7⟩ := hlk i hi
      have h4 := (hK i hi).1
      refine ex_aload_n (pc := 20) dX6_ask_20 rfl ?_
      refine ex_get (pc := 21) dX6_ask_21 fl_X6_56 hW rfl ?_
      refine ex_iload_n (pc := 24) dX6_ask_24 rfl ?_
      refine ex_aldn (k := i) (v := .ref (g.1 + (55 + 4 * i))) (pc := 25) dX6_ask_25 rfl hls rfl (by omega) (by decide) (congrArg va_rf (hls2 i (by omega))) ?_
      refine sx_astore_n (pc := 26) dX6_ask_26 rfl (by decide) ?_
      show Ex _ _ _ _ _ _ [_, _, _, _] _ _ _
      refine ex_aload_n (pc := 27) dX6_ask_27 rfl ?_
      refine ex_get (pc := 28) dX6_ask_28 fl_X6_312 a1 rfl ?_
      refine ex_if_ne (pc := 31) (tgt := 37) dX6_ask_31 (by decide) (fun c_31 => ?_) (fun c_31 => ?_)
      · skip
        have k0_ : ¬ (L i).1 = 0 := fun e => c_31 ((ho_eq (j := 0) h4 (by decide)).mpr e)
        refine ex_aload_n (pc := 37) dX6_ask_37 rfl ?_
        refine ex_get (pc := 38) dX6_ask_38 fl_X6_312 a1 rfl ?_
        refine ex_iconst (pc := 41) (v := (nI 1)) dX6_ask_41 (by decide) ?_
        refine ex_icmp_ne (pc := 42) (tgt := 56) dX6_ask_42 (by decide) (fun c_42 => ?_) (fun c_42 => ?_)
        · skip
          have k1_ : ¬ (L i).1 = 1 := fun e => c_42 ((ho_eq (j := 1) h4 (by decide)).mpr e)
          refine ex_ldc (pc := 56) dX6_ask_56 cn_X6_137 ?_
          refine ex_ret dX6_ask_58 rfl ?_
          refine qi_mk ⟨rfl, ?_⟩
          simp [aAsk, b_5, b_14, i_i, k0_, k1_]
        · skip
          have k1_ : (L i).1 = 1 := (ho_eq (j := 1) h4 (by decide)).mp c_42
          obtain ⟨κ, hκ, eκ⟩ := (hK i hi).2.1 k1_
          obtain ⟨z1, z2⟩ := a5 k1_
          have a2k : h[56 + 4 * i]? = some (po (nI κ) ce si ti) := by rw [← eκ, ← z1]; exact a2
          refine ex_aload_n (pc := 45) dX6_ask_45 rfl ?_
          refine ex_get (pc := 46) dX6_ask_46 fl_X6_315 a1 rfl ?_
          refine ex_iload_n (pc := 49) dX6_ask_49 rfl ?_
          refine cx_VL1i (pc := 50) dX6_ask_50 lk_X6_134 a2 rfl (Nat.le_of_ble_eq_true rfl) (Nat.le_of_ble_eq_true rfl) (by omega) (c_P_isOf a2k hκ (by omega) _) (fun h_50 x_50 q_50 => ?_)
          obtain ⟨e_50, f_50⟩ := q_50
          rw [e_50, f_50]
          refine ex_if_ne (pc := 53) (tgt := 59) dX6_ask_53 (by decide) (fun c_53 => ?_) (fun c_53 => ?_)
          · skip
            have b_53 := bT c_53
            refine ex_aload_n (pc := 59) dX6_ask_59 rfl ?_
            refine ex_get (pc := 60) dX6_ask_60 fl_X6_315 a1 rfl ?_
            refine cx_VL0i (pc := 63) dX6_ask_63 lk_X6_130 a2 rfl (Nat.le_of_ble_eq_true rfl) (Nat.le_of_ble_eq_true rfl) (by omega) (c_P_worth a2) (fun h_63 x_63 q_63 => ?_)
            obtain ⟨e_63, f_63⟩ := q_63
            rw [e_63, f_63]
            refine ex_ret dX6_ask_66 rfl ?_
            refine qi_mk ⟨rfl, ?_⟩
            simp [aAsk, b_5, b_14, b_53, i_i, k0_, k1_, eκ, z2]
          · skip
            have b_53 := bF c_53
            refine ex_ldc (pc := 56) dX6_ask_56 cn_X6_137 ?_
            refine ex_ret dX6_ask_58 rfl ?_
            refine qi_mk ⟨rfl, ?_⟩
            simp [aAsk, b_5, b_14, b_53, i_i, k0_, k1_, eκ]
      · skip
        have k0_ : (L i).1 = 0 := (ho_eq (j := 0) h4 (by decide)).mp c_31
        refine ex_ldc (pc := 34) dX6_ask_34 cn_X6_230 ?_
        refine ex_ret dX6_ask_36 rfl ?_
        refine qi_mk ⟨rfl, ?_⟩
        simp [aAsk, b_5, b_14, i_i, k0_]
    · skip
      have b_14 := bF c_14
      refine ex_ldc (pc := 17) dX6_ask_17 cn_X6_73 ?_
      refine ex_ret dX6_ask_19 rfl ?_
      refine qi_mk ⟨rfl, ?_⟩
      simp [aAsk, b_5, b_14]
set_option maxHeartbeats 4000000 in
set_option maxRecDepth 100000 in
theorem c_W_item {g : Gl} {d ks : Nat} {h : AH} {ik wc : Int32} (hW : h[0]? = some (wtC g ik wc)) {L : Nat → Slt} (hL : SltC g h L) (hK : LOk L) (hd : 2 ≤ d) (q p : Int32) : Ex g mX6_item d 0 ks 0 [some (.ref (g.1 + 0)), some (.int q), some (.int p), none] [] h (qi (fun h' r => h' = h ∧ r = aItem L q p)) := by
  obtain ⟨⟨fl, hls, hls2⟩, hlk⟩ := hL
  refine ex_iload_n (pc := 0) dX6_item_0 rfl ?_
  refine ex_iconst (pc := 1) (v := (nI 5)) dX6_item_1 (by decide) ?_
  refine cx_SL2i (pc := 2) dX6_item_2 lk_X6_69 rfl (Nat.le_of_ble_eq_true rfl) (Nat.le_of_ble_eq_true rfl) (by omega) (c_ib _ _) (fun h_2 x_2 q_2 => ?_)
  obtain ⟨e_2, f_2⟩ := q_2
  rw [e_2, f_2]
  refine ex_if_ne (pc := 5) (tgt := 11) dX6_item_5 (by decide) (fun c_5 => ?_) (fun c_5 => ?_)
  · skip
    have b_5 := bT c_5
    obtain ⟨i, hi, rfl⟩ := bw_ex b_5
    have i_i : ixI (nI i) = i := iK (by omega)
    obtain ⟨nu, kd0, ce, si, ti, so, sz, cf, a1, a2, a3, a4, a5, a6, a7⟩ := hlk i hi
    have h4 := (hK i hi).1
    refine ex_aload_n (pc := 11) dX6_item_11 rfl ?_
    refine ex_get (pc := 12) dX6_item_12 fl_X6_56 hW rfl ?_
    refine ex_iload_n (pc := 15) dX6_item_15 rfl ?_
    refine ex_aldn (k := i) (v := .ref (g.1 + (55 + 4 * i))) (pc := 16) dX6_item_16 rfl hls rfl (by omega) (by decide) (congrArg va_rf (hls2 i (by omega))) ?_
    refine sx_astore_n (pc := 17) dX6_item_17 rfl (by decide) ?_
    show Ex _ _ _ _ _ _ [_, _, _, _] _ _ _
    refine ex_aload_n (pc := 18) dX6_item_18 rfl ?_
    refine ex_get (pc := 19) dX6_item_19 fl_X6_312 a1 rfl ?_
    refine ex_if_ne (pc := 22) (tgt := 28) dX6_item_22 (by decide) (fun c_22 => ?_) (fun c_22 => ?_)
    · skip
      have k0_ : ¬ (L i).1 = 0 := fun e => c_22 ((ho_eq (j := 0) h4 (by decide)).mpr e)
      refine ex_aload_n (pc := 28) dX6_item_28 rfl ?_
      refine ex_get (pc := 29) dX6_item_29 fl_X6_312 a1 rfl ?_
      refine ex_iconst (pc := 32) (v := (nI 2)) dX6_item_32 (by decide) ?_
      refine ex_icmp_eq (pc := 33) (tgt := 39) dX6_item_33 (by decide) (fun c_33 => ?_) (fun c_33 => ?_)
      · skip
        have k2_ : (L i).1 = 2 := (ho_eq (j := 2) h4 (by decide)).mp c_33
        obtain ⟨z1, z2⟩ := a6 k2_
        subst z1
        refine ex_iload_n (pc := 39) dX6_item_39 rfl ?_
        refine ex_aload_n (pc := 40) dX6_item_40 rfl ?_
        refine ex_get (pc := 41) dX6_item_41 fl_X6_321 a1 rfl ?_
        refine ex_get (pc := 44) dX6_item_44 fl_X6_285 a3 rfl ?_
        refine cx_SL2i (pc := 47) dX6_item_47 lk_X6_69 rfl (Nat.le_of_ble_eq_true rfl) (Nat.le_of_ble_eq_true rfl) (by omega) (c_ib _ _) (fun h_47 x_47 q_47 => ?_)
        obtain ⟨e_47, f_47⟩ := q_47
        rw [e_47, f_47]
        refine ex_if_ne (pc := 50) (tgt := 57) dX6_item_50 (by decide) (fun c_50 => ?_) (fun c_50 => ?_)
        · skip
          have b_50 := bT c_50
          have hm := (hK i hi).2.2
          obtain ⟨p0, hp0, rfl⟩ := bw_ex b_50 (by omega)
          have i_p : ixI (nI p0) = p0 := iK (by omega)
          refine ex_aload_n (pc := 57) dX6_item_57 rfl ?_
          refine ex_get (pc := 58) dX6_item_58 fl_X6_321 a1 rfl ?_
          refine ex_iload_n (pc := 61) dX6_item_61 rfl ?_
          refine cx_VL1i (pc := 62) dX6_item_62 lk_X6_300 a3 rfl (Nat.le_of_ble_eq_true rfl) (Nat.le_of_ble_eq_true rfl) (by omega) (c_S_hasNumber a3 a4 (by omega) (by omega) (show p0 < 24 by omega)) (fun h_62 x_62 q_62 => ?_)
          obtain ⟨e_62, f_62⟩ := q_62
          rw [e_62, f_62]
          refine ex_if_eq (pc := 65) (tgt := 80) dX6_item_65 (by decide) (fun c_65 => ?_) (fun c_65 => ?_)
          · skip
            have kn : (L i).2.2.2.2 p0 = -1000000005 := by
              rw [← z2 p0 (by omega)]
              exact Decidable.not_not.mp (fun q => (bI_0.mp c_65) ⟨hp0, q⟩)
            refine ex_ldc (pc := 80) dX6_item_80 cn_X6_137 ?_
            refine ex_ret dX6_item_82 rfl ?_
            refine qi_mk ⟨rfl, ?_⟩
            simp [aItem, b_5, b_50, i_i, k0_, k2_, i_p, kn]
          · skip
            have kn : ¬ (L i).2.2.2.2 p0 = -1000000005 := by
              rw [← z2 p0 (by omega)]
              exact (Decidable.not_not.mp (fun q => c_65 (bI_f q))).2
            refine ex_aload_n (pc := 68) dX6_item_68 rfl ?_
            refine ex_get (pc := 69) dX6_item_69 fl_X6_321 a1 rfl ?_
            refine ex_get (pc := 72) dX6_item_72 fl_X6_292 a3 rfl ?_
            refine ex_iload_n (pc := 75) dX6_item_75 rfl ?_
            refine ex_ildn (k := p0) (pc := 76) dX6_item_76 a4 rfl (by omega) (by decide) ?_
            refine ex_goto (pc := 77) (tgt := 82) dX6_item_77 (by decide) ?_
            refine ex_ret dX6_item_82 rfl ?_
            refine qi_mk ⟨rfl, ?_⟩
            simp [aItem, b_5, b_50, i_i, k0_, k2_, i_p, kn, z2 p0 (show p0 < 24 by omega)]
        · skip
          have b_50 := bF c_50
          refine ex_ldc_w (pc := 53) dX6_item_53 cn_X6_288 ?_
          refine ex_ret dX6_item_56 rfl ?_
          refine qi_mk ⟨rfl, ?_⟩
          simp [aItem, b_5, b_50, i_i, k0_, k2_]
      · skip
        have k2_ : ¬ (L i).1 = 2 := fun e => c_33 ((ho_eq (j := 2) h4 (by decide)).mpr e)
        refine ex_ldc (pc := 36) dX6_item_36 cn_X6_137 ?_
        refine ex_ret dX6_item_38 rfl ?_
        refine qi_mk ⟨rfl, ?_⟩
        simp [aItem, b_5, i_i, k0_, k2_]
    · skip
      have k0_ : (L i).1 = 0 := (ho_eq (j := 0) h4 (by decide)).mp c_22
      refine ex_ldc (pc := 25) dX6_item_25 cn_X6_230 ?_
      refine ex_ret dX6_item_27 rfl ?_
      refine qi_mk ⟨rfl, ?_⟩
      simp [aItem, b_5, i_i, k0_]
  · skip
    have b_5 := bF c_5
    refine ex_ldc (pc := 8) dX6_item_8 cn_X6_73 ?_
    refine ex_ret dX6_item_10 rfl ?_
    refine qi_mk ⟨rfl, ?_⟩
    simp [aItem, b_5]
set_option maxHeartbeats 4000000 in
set_option maxRecDepth 100000 in
theorem c_W_rest {g : Gl} {d ks : Nat} {h : AH} {ik wc : Int32} (hW : h[0]? = some (wtC g ik wc)) {L : Nat → Slt} (hL : SltC g h L) (hK : LOk L) (hd : 1 ≤ d) (q n : Int32) : Ex g mX6_rest d 0 ks 0 [some (.ref (g.1 + 0)), some (.int q), some (.int n), none] [] h (qi (fun h' r => h' = h ∧ r = aRest L q n)) := by
  obtain ⟨⟨fl, hls, hls2⟩, hlk⟩ := hL
  refine ex_iload_n (pc := 0) dX6_rest_0 rfl ?_
  refine ex_iconst (pc := 1) (v := (nI 5)) dX6_rest_1 (by decide) ?_
  refine cx_SL2i (pc := 2) dX6_rest_2 lk_X6_69 rfl (Nat.le_of_ble_eq_true rfl) (Nat.le_of_ble_eq_true rfl) (by omega) (c_ib _ _) (fun h_2 x_2 q_2 => ?_)
  obtain ⟨e_2, f_2⟩ := q_2
  rw [e_2, f_2]
  refine ex_if_ne (pc := 5) (tgt := 11) dX6_rest_5 (by decide) (fun c_5 => ?_) (fun c_5 => ?_)
  · skip
    have b_5 := bT c_5
    obtain ⟨i, hi, rfl⟩ := bw_ex b_5
    have i_i : ixI (nI i) = i := iK (by omega)
    obtain ⟨nu, kd0, ce, si, ti, so, sz, cf, a1, a2, a3, a4, a5, a6, a7⟩ := hlk i hi
    have h4 := (hK i hi).1
    refine ex_aload_n (pc := 11) dX6_rest_11 rfl ?_
    refine ex_get (pc := 12) dX6_rest_12 fl_X6_56 hW rfl ?_
    refine ex_iload_n (pc := 15) dX6_rest_15 rfl ?_
    refine ex_aldn (k := i) (v := .ref (g.1 + (55 + 4 * i))) (pc := 16) dX6_rest_16 rfl hls rfl (by omega) (by decide) (congrArg va_rf (hls2 i (by omega))) ?_
    refine sx_astore_n (pc := 17) dX6_rest_17 rfl (by decide) ?_
    show Ex _ _ _ _ _ _ [_, _, _, _] _ _ _
    refine ex_aload_n (pc := 18) dX6_rest_18 rfl ?_
    refine ex_get (pc := 19) dX6_rest_19 fl_X6_312 a1 rfl ?_
    refine ex_if_ne (pc := 22) (tgt := 28) dX6_rest_22 (by decide) (fun c_22 => ?_) (fun c_22 => ?_)
    · skip
      have k0_ : ¬ (L i).1 = 0 := fun e => c_22 ((ho_eq (j := 0) h4 (by decide)).mpr e)
      refine ex_aload_n (pc := 28) dX6_rest_28 rfl ?_
      refine ex_get (pc := 29) dX6_rest_29 fl_X6_312 a1 rfl ?_
      refine ex_iconst (pc := 32) (v := (nI 3)) dX6_rest_32 (by decide) ?_
      refine ex_icmp_eq (pc := 33) (tgt := 39) dX6_rest_33 (by decide) (fun c_33 => ?_) (fun c_33 => ?_)
      · skip
        have k3_ : (L i).1 = 3 := (ho_eq (j := 3) h4 (by decide)).mp c_33
        have z1 := a7 k3_
        subst z1
        refine ex_iload_n (pc := 39) dX6_rest_39 rfl ?_
        refine ex_if_ne (pc := 40) (tgt := 48) dX6_rest_40 (by decide) (fun c_40 => ?_) (fun c_40 => ?_)
        · skip
          refine ex_aload_n (pc := 48) dX6_rest_48 rfl ?_
          refine ex_get (pc := 49) dX6_rest_49 fl_X6_327 a1 rfl ?_
          refine ex_iload_n (pc := 52) dX6_rest_52 rfl ?_
          refine ex_irem (pc := 53) dX6_rest_53 c_40 ?_
          refine ex_ret dX6_rest_54 rfl ?_
          refine qi_mk ⟨rfl, ?_⟩
          simp [aRest, b_5, i_i, k0_, k3_, c_40]
        · skip
          refine ex_ldc (pc := 43) dX6_rest_43 cn_X6_78 ?_
          refine ex_goto (pc := 45) (tgt := 54) dX6_rest_45 (by decide) ?_
          refine ex_ret dX6_rest_54 rfl ?_
          refine qi_mk ⟨rfl, ?_⟩
          simp [aRest, b_5, i_i, k0_, k3_, c_40]
      · skip
        have k3_ : ¬ (L i).1 = 3 := fun e => c_33 ((ho_eq (j := 3) h4 (by decide)).mpr e)
        refine ex_ldc (pc := 36) dX6_rest_36 cn_X6_137 ?_
        refine ex_ret dX6_rest_38 rfl ?_
        refine qi_mk ⟨rfl, ?_⟩
        simp [aRest, b_5, i_i, k0_, k3_]
    · skip
      have k0_ : (L i).1 = 0 := (ho_eq (j := 0) h4 (by decide)).mp c_22
      refine ex_ldc (pc := 25) dX6_rest_25 cn_X6_230 ?_
      refine ex_ret dX6_rest_27 rfl ?_
      refine qi_mk ⟨rfl, ?_⟩
      simp [aRest, b_5, i_i, k0_]
  · skip
    have b_5 := bF c_5
    refine ex_ldc (pc := 8) dX6_rest_8 cn_X6_73 ?_
    refine ex_ret dX6_rest_10 rfl ?_
    refine qi_mk ⟨rfl, ?_⟩
    simp [aRest, b_5]
set_option maxHeartbeats 4000000 in
set_option maxRecDepth 100000 in
theorem c_M_ask {g : Gl} {d ks : Nat} {h : AH} {z s : Nat → Int32} (hM : Ms g h z s) {L : Nat → Slt} (hL : SltM g h L) (hK : LOk L) (hd : 2 ≤ d) (q kd : Int32) : Ex g mX7_ask d 0 ks 0 [some (.ref (g.1 + 75)), some (.int q), some (.int kd)] [] h (qi (fun h' r => h' = h ∧ r = aAsk L q kd)) := by
  obtain ⟨f82, f83, f84, f85, f86, ⟨h82, h83, h84, h85, h86⟩, hlk⟩ := hL
  refine ex_iload_n (pc := 0) dX7_ask_0 rfl ?_
  refine cx_SL1i (pc := 1) dX7_ask_1 lk_X7_384 rfl (Nat.le_of_ble_eq_true rfl) (Nat.le_of_ble_eq_true rfl) (by omega) (c_M_slB (by omega) _) (fun h_1 x_1 q_1 => ?_)
  obtain ⟨e_1, f_1⟩ := q_1
  rw [e_1, f_1]
  refine ex_if_eq (pc := 4) (tgt := 19) dX7_ask_4 (by decide) (fun c_4 => ?_) (fun c_4 => ?_)
  · skip
    have b_4 := bF c_4
    refine ex_ldc (pc := 19) dX7_ask_19 cn_X7_161 ?_
    refine ex_ret dX7_ask_21 rfl ?_
    refine qi_mk ⟨rfl, ?_⟩
    simp [aAsk, b_4]
  · skip
    have b_4 := bT c_4
    refine ex_iload_n (pc := 7) dX7_ask_7 rfl ?_
    refine ex_i2l (pc := 8) dX7_ask_8 ?_
    refine ex_lconst (pc := 9) (v := 0) dX7_ask_9 (by decide) ?_
    refine ex_ldc2_w (pc := 10) dX7_ask_10 cn_X7_154 ?_
    refine cx_SL3i (pc := 13) dX7_ask_13 lk_X7_69 rfl (Nat.le_of_ble_eq_true rfl) (Nat.le_of_ble_eq_true rfl) (by omega) (c_M_in _ (m := 6) (by decide)) (fun h_13 x_13 q_13 => ?_)
    obtain ⟨e_13, f_13⟩ := q_13
    rw [e_13, f_13]
    refine ex_if_ne (pc := 16) (tgt := 22) dX7_ask_16 (by decide) (fun c_16 => ?_) (fun c_16 => ?_)
    · skip
      have b_16 := bT c_16
      obtain ⟨i, hi, rfl⟩ := bw_ex b_4
      have i_i : ixI (nI i) = i := iK (by omega)
      obtain ⟨a1, a2, a3, a4⟩ := hlk i hi
      have h4 := (hK i hi).1
      refine ex_aload_n (pc := 22) dX7_ask_22 rfl ?_
      refine ex_get (pc := 23) dX7_ask_23 fl_X7_28 hM.1 rfl ?_
      refine ex_iload_n (pc := 26) dX7_ask_26 rfl ?_
      refine ex_ildn (k := i) (pc := 27) dX7_ask_27 h82 rfl (by omega) (by decide) ?_
      rw [a1]
      refine ex_if_ne (pc := 28) (tgt := 35) dX7_ask_28 (by decide) (fun c_28 => ?_) (fun c_28 => ?_)
      · skip
        have k0_ : ¬ (L i).1 = 0 := fun e => c_28 ((ho_eq (j := 0) h4 (by decide)).mpr e)
        refine ex_aload_n (pc := 35) dX7_ask_35 rfl ?_
        refine ex_get (pc := 36) dX7_ask_36 fl_X7_28 hM.1 rfl ?_
        refine ex_iload_n (pc := 39) dX7_ask_39 rfl ?_
        refine ex_ildn (k := i) (pc := 40) dX7_ask_40 h82 rfl (by omega) (by decide) ?_
        rw [a1]
        refine ex_iconst (pc := 41) (v := (nI 1)) dX7_ask_41 (by decide) ?_
        refine ex_icmp_ne (pc := 42) (tgt := 67) dX7_ask_42 (by decide) (fun c_42 => ?_) (fun c_42 => ?_)
        · skip
          have k1_ : ¬ (L i).1 = 1 := fun e => c_42 ((ho_eq (j := 1) h4 (by decide)).mpr e)
          refine ex_ldc (pc := 67) dX7_ask_67 cn_X7_187 ?_
          refine ex_ret dX7_ask_69 rfl ?_
          refine qi_mk ⟨rfl, ?_⟩
          simp [aAsk, b_4, b_16, i_i, k0_, k1_]
        · skip
          have k1_ : (L i).1 = 1 := (ho_eq (j := 1) h4 (by decide)).mp c_42
          refine ex_aload_n (pc := 45) dX7_ask_45 rfl ?_
          refine ex_get (pc := 46) dX7_ask_46 fl_X7_31 hM.1 rfl ?_
          refine ex_iload_n (pc := 49) dX7_ask_49 rfl ?_
          refine ex_ildn (k := i) (pc := 50) dX7_ask_50 h83 rfl (by omega) (by decide) ?_
          rw [a2 (Or.inl k1_)]
          refine ex_iload_n (pc := 51) dX7_ask_51 rfl ?_
          refine cx_SL2i (pc := 52) dX7_ask_52 lk_X7_183 rfl (Nat.le_of_ble_eq_true rfl) (Nat.le_of_ble_eq_true rfl) (by omega) (c_M_isOf _ _) (fun h_52 x_52 q_52 => ?_)
          obtain ⟨e_52, f_52⟩ := q_52
          rw [e_52, f_52]
          refine ex_if_eq (pc := 55) (tgt := 67) dX7_ask_55 (by decide) (fun c_55 => ?_) (fun c_55 => ?_)
          · skip
            have b_55 := bF c_55
            refine ex_ldc (pc := 67) dX7_ask_67 cn_X7_187 ?_
            refine ex_ret dX7_ask_69 rfl ?_
            refine qi_mk ⟨rfl, ?_⟩
            simp [aAsk, b_4, b_16, b_55, i_i, k0_, k1_]
          · skip
            have b_55 := bT c_55
            refine ex_aload_n (pc := 58) dX7_ask_58 rfl ?_
            refine ex_get (pc := 59) dX7_ask_59 fl_X7_34 hM.1 rfl ?_
            refine ex_iload_n (pc := 62) dX7_ask_62 rfl ?_
            refine ex_ildn (k := i) (pc := 63) dX7_ask_63 h84 rfl (by omega) (by decide) ?_
            rw [a3 k1_]
            refine ex_goto (pc := 64) (tgt := 69) dX7_ask_64 (by decide) ?_
            refine ex_ret dX7_ask_69 rfl ?_
            refine qi_mk ⟨rfl, ?_⟩
            simp [aAsk, b_4, b_16, b_55, i_i, k0_, k1_]
      · skip
        have k0_ : (L i).1 = 0 := (ho_eq (j := 0) h4 (by decide)).mp c_28
        refine ex_ldc_w (pc := 31) dX7_ask_31 cn_X7_373 ?_
        refine ex_ret dX7_ask_34 rfl ?_
        refine qi_mk ⟨rfl, ?_⟩
        simp [aAsk, b_4, b_16, i_i, k0_]
    · skip
      have b_16 := bF c_16
      refine ex_ldc (pc := 19) dX7_ask_19 cn_X7_161 ?_
      refine ex_ret dX7_ask_21 rfl ?_
      refine qi_mk ⟨rfl, ?_⟩
      simp [aAsk, b_4, b_16]
set_option maxHeartbeats 4000000 in
set_option maxRecDepth 100000 in
theorem c_M_item {g : Gl} {d ks : Nat} {h : AH} {z s : Nat → Int32} (hM : Ms g h z s) {L : Nat → Slt} (hL : SltM g h L) (hK : LOk L) (hd : 2 ≤ d) (q p : Int32) : Ex g mX7_item d 0 ks 0 [some (.ref (g.1 + 75)), some (.int q), some (.int p), none] [] h (qi (fun h' r => h' = h ∧ r = aItem L q p)) := by
  obtain ⟨f82, f83, f84, f85, f86, ⟨h82, h83, h84, h85, h86⟩, hlk⟩ := hL
  refine ex_iload_n (pc := 0) dX7_item_0 rfl ?_
  refine cx_SL1i (pc := 1) dX7_item_1 lk_X7_384 rfl (Nat.le_of_ble_eq_true rfl) (Nat.le_of_ble_eq_true rfl) (by omega) (c_M_slB (by omega) _) (fun h_1 x_1 q_1 => ?_)
  obtain ⟨e_1, f_1⟩ := q_1
  rw [e_1, f_1]
  refine ex_if_ne (pc := 4) (tgt := 10) dX7_item_4 (by decide) (fun c_4 => ?_) (fun c_4 => ?_)
  · skip
    have b_4 := bT c_4
    obtain ⟨i, hi, rfl⟩ := bw_ex b_4
    have i_i : ixI (nI i) = i := iK (by omega)
    obtain ⟨a1, a2, a3, a4⟩ := hlk i hi
    have h4 := (hK i hi).1
    refine ex_aload_n (pc := 10) dX7_item_10 rfl ?_
    refine ex_get (pc := 11) dX7_item_11 fl_X7_28 hM.1 rfl ?_
    refine ex_iload_n (pc := 14) dX7_item_14 rfl ?_
    refine ex_ildn (k := i) (pc := 15) dX7_item_15 h82 rfl (by omega) (by decide) ?_
    rw [a1]
    refine ex_iconst (pc := 16) (v := (nI 2)) dX7_item_16 (by decide) ?_
    refine ex_icmp_eq (pc := 17) (tgt := 38) dX7_item_17 (by decide) (fun c_17 => ?_) (fun c_17 => ?_)
    · skip
      have k2_ : (L i).1 = 2 := (ho_eq (j := 2) h4 (by decide)).mp c_17
      obtain ⟨y1, y2⟩ := a4 k2_
      have hm := (hK i hi).2.2
      refine ex_iload_n (pc := 38) dX7_item_38 rfl ?_
      refine ex_i2l (pc := 39) dX7_item_39 ?_
      refine ex_lconst (pc := 40) (v := 0) dX7_item_40 (by decide) ?_
      refine ex_aload_n (pc := 41) dX7_item_41 rfl ?_
      refine ex_get (pc := 42) dX7_item_42 fl_X7_37 hM.1 rfl ?_
      refine ex_iload_n (pc := 45) dX7_item_45 rfl ?_
      refine ex_ildn (k := i) (pc := 46) dX7_item_46 h85 rfl (by omega) (by decide) ?_
      rw [y1]
      refine ex_iconst (pc := 47) (v := (nI 1)) dX7_item_47 (by decide) ?_
      refine ex_isub (pc := 48) dX7_item_48 ?_
      refine ex_i2l (pc := 49) dX7_item_49 ?_
      refine cx_SL3i (pc := 50) dX7_item_50 lk_X7_69 rfl (Nat.le_of_ble_eq_true rfl) (Nat.le_of_ble_eq_true rfl) (by omega) (c_M_inN _ (by omega)) (fun h_50 x_50 q_50 => ?_)
      obtain ⟨e_50, f_50⟩ := q_50
      rw [e_50, f_50]
      refine ex_if_ne (pc := 53) (tgt := 60) dX7_item_53 (by decide) (fun c_53 => ?_) (fun c_53 => ?_)
      · skip
        have b_53 := bT c_53
        obtain ⟨p0, hp0, rfl⟩ := bw_ex b_53 (by omega)
        have i_p : ixI (nI p0) = p0 := iK (by omega)
        refine ex_aload_n (pc := 60) dX7_item_60 rfl ?_
        refine ex_get (pc := 61) dX7_item_61 fl_X7_40 hM.1 rfl ?_
        refine ex_bipush (pc := 64) (v := (nI 24)) dX7_item_64 (by decide) ?_
        refine ex_iload_n (pc := 66) dX7_item_66 rfl ?_
        refine ex_imul (pc := 67) dX7_item_67 ?_
        refine ex_iload_n (pc := 68) dX7_item_68 rfl ?_
        refine ex_iadd (pc := 69) dX7_item_69 ?_
        rw [nI_mul, nI_add]
        refine ex_ildn (k := 24 * i + p0) (pc := 70) dX7_item_70 h86 rfl (by omega) (by decide) ?_
        rw [y2 p0 (by omega)]
        refine sx_istore_n (pc := 71) dX7_item_71 rfl (by decide) ?_
        show Ex _ _ _ _ _ _ [_, _, _, _] _ _ _
        refine ex_iload_n (pc := 72) dX7_item_72 rfl ?_
        refine ex_ldc (pc := 73) dX7_item_73 cn_X7_68 ?_
        refine ex_icmp_ne (pc := 75) (tgt := 83) dX7_item_75 (by decide) (fun c_75 => ?_) (fun c_75 => ?_)
        · skip
          refine ex_iload_n (pc := 83) dX7_item_83 rfl ?_
          refine ex_ret dX7_item_84 rfl ?_
          refine qi_mk ⟨rfl, ?_⟩
          simp [aItem, b_4, b_53, i_i, k2_, i_p, c_75]
        · skip
          refine ex_ldc (pc := 78) dX7_item_78 cn_X7_187 ?_
          refine ex_goto (pc := 80) (tgt := 84) dX7_item_80 (by decide) ?_
          refine ex_ret dX7_item_84 rfl ?_
          refine qi_mk ⟨rfl, ?_⟩
          simp [aItem, b_4, b_53, i_i, k2_, i_p, c_75]
      · skip
        have b_53 := bF c_53
        refine ex_ldc_w (pc := 56) dX7_item_56 cn_X7_374 ?_
        refine ex_ret dX7_item_59 rfl ?_
        refine qi_mk ⟨rfl, ?_⟩
        simp [aItem, b_4, b_53, i_i, k2_]
    · skip
      have k2_ : ¬ (L i).1 = 2 := fun e => c_17 ((ho_eq (j := 2) h4 (by decide)).mpr e)
      refine ex_aload_n (pc := 20) dX7_item_20 rfl ?_
      refine ex_get (pc := 21) dX7_item_21 fl_X7_28 hM.1 rfl ?_
      refine ex_iload_n (pc := 24) dX7_item_24 rfl ?_
      refine ex_ildn (k := i) (pc := 25) dX7_item_25 h82 rfl (by omega) (by decide) ?_
      rw [a1]
      refine ex_if_ne (pc := 26) (tgt := 35) dX7_item_26 (by decide) (fun c_26 => ?_) (fun c_26 => ?_)
      · skip
        have k0_ : ¬ (L i).1 = 0 := fun e => c_26 ((ho_eq (j := 0) h4 (by decide)).mpr e)
        refine ex_ldc (pc := 35) dX7_item_35 cn_X7_187 ?_
        refine ex_ret dX7_item_37 rfl ?_
        refine qi_mk ⟨rfl, ?_⟩
        simp [aItem, b_4, i_i, k0_, k2_]
      · skip
        have k0_ : (L i).1 = 0 := (ho_eq (j := 0) h4 (by decide)).mp c_26
        refine ex_ldc_w (pc := 29) dX7_item_29 cn_X7_373 ?_
        refine ex_goto (pc := 32) (tgt := 37) dX7_item_32 (by decide) ?_
        refine ex_ret dX7_item_37 rfl ?_
        refine qi_mk ⟨rfl, ?_⟩
        simp [aItem, b_4, i_i, k0_, k2_]
  · skip
    have b_4 := bF c_4
    refine ex_ldc (pc := 7) dX7_item_7 cn_X7_161 ?_
    refine ex_ret dX7_item_9 rfl ?_
    refine qi_mk ⟨rfl, ?_⟩
    simp [aItem, b_4]
set_option maxHeartbeats 4000000 in
set_option maxRecDepth 100000 in
theorem c_M_rest {g : Gl} {d ks : Nat} {h : AH} {z s : Nat → Int32} (hM : Ms g h z s) {L : Nat → Slt} (hL : SltM g h L) (hK : LOk L) (hd : 2 ≤ d) (q n : Int32) : Ex g mX7_rest d 0 ks 0 [some (.ref (g.1 + 75)), some (.int q), some (.int n)] [] h (qi (fun h' r => h' = h ∧ r = aRest L q n)) := by
  obtain ⟨f82, f83, f84, f85, f86, ⟨h82, h83, h84, h85, h86⟩, hlk⟩ := hL
  refine ex_iload_n (pc := 0) dX7_rest_0 rfl ?_
  refine cx_SL1i (pc := 1) dX7_rest_1 lk_X7_384 rfl (Nat.le_of_ble_eq_true rfl) (Nat.le_of_ble_eq_true rfl) (by omega) (c_M_slB (by omega) _) (fun h_1 x_1 q_1 => ?_)
  obtain ⟨e_1, f_1⟩ := q_1
  rw [e_1, f_1]
  refine ex_if_ne (pc := 4) (tgt := 10) dX7_rest_4 (by decide) (fun c_4 => ?_) (fun c_4 => ?_)
  · skip
    have b_4 := bT c_4
    obtain ⟨i, hi, rfl⟩ := bw_ex b_4
    have i_i : ixI (nI i) = i := iK (by omega)
    obtain ⟨a1, a2, a3, a4⟩ := hlk i hi
    have h4 := (hK i hi).1
    refine ex_aload_n (pc := 10) dX7_rest_10 rfl ?_
    refine ex_get (pc := 11) dX7_rest_11 fl_X7_28 hM.1 rfl ?_
    refine ex_iload_n (pc := 14) dX7_rest_14 rfl ?_
    refine ex_ildn (k := i) (pc := 15) dX7_rest_15 h82 rfl (by omega) (by decide) ?_
    rw [a1]
    refine ex_iconst (pc := 16) (v := (nI 3)) dX7_rest_16 (by decide) ?_
    refine ex_icmp_eq (pc := 17) (tgt := 38) dX7_rest_17 (by decide) (fun c_17 => ?_) (fun c_17 => ?_)
    · skip
      have k3_ : (L i).1 = 3 := (ho_eq (j := 3) h4 (by decide)).mp c_17
      refine ex_iload_n (pc := 38) dX7_rest_38 rfl ?_
      refine ex_if_ne (pc := 39) (tgt := 47) dX7_rest_39 (by decide) (fun c_39 => ?_) (fun c_39 => ?_)
      · skip
        refine ex_aload_n (pc := 47) dX7_rest_47 rfl ?_
        refine ex_get (pc := 48) dX7_rest_48 fl_X7_31 hM.1 rfl ?_
        refine ex_iload_n (pc := 51) dX7_rest_51 rfl ?_
        refine ex_ildn (k := i) (pc := 52) dX7_rest_52 h83 rfl (by omega) (by decide) ?_
        rw [a2 (Or.inr k3_)]
        refine ex_iload_n (pc := 53) dX7_rest_53 rfl ?_
        refine ex_irem (pc := 54) dX7_rest_54 c_39 ?_
        refine ex_ret dX7_rest_55 rfl ?_
        refine qi_mk ⟨rfl, ?_⟩
        simp [aRest, b_4, i_i, k3_, c_39]
      · skip
        refine ex_ldc (pc := 42) dX7_rest_42 cn_X7_165 ?_
        refine ex_goto (pc := 44) (tgt := 55) dX7_rest_44 (by decide) ?_
        refine ex_ret dX7_rest_55 rfl ?_
        refine qi_mk ⟨rfl, ?_⟩
        simp [aRest, b_4, i_i, k3_, c_39]
    · skip
      have k3_ : ¬ (L i).1 = 3 := fun e => c_17 ((ho_eq (j := 3) h4 (by decide)).mpr e)
      refine ex_aload_n (pc := 20) dX7_rest_20 rfl ?_
      refine ex_get (pc := 21) dX7_rest_21 fl_X7_28 hM.1 rfl ?_
      refine ex_iload_n (pc := 24) dX7_rest_24 rfl ?_
      refine ex_ildn (k := i) (pc := 25) dX7_rest_25 h82 rfl (by omega) (by decide) ?_
      rw [a1]
      refine ex_if_ne (pc := 26) (tgt := 35) dX7_rest_26 (by decide) (fun c_26 => ?_) (fun c_26 => ?_)
      · skip
        have k0_ : ¬ (L i).1 = 0 := fun e => c_26 ((ho_eq (j := 0) h4 (by decide)).mpr e)
        refine ex_ldc (pc := 35) dX7_rest_35 cn_X7_187 ?_
        refine ex_ret dX7_rest_37 rfl ?_
        refine qi_mk ⟨rfl, ?_⟩
        simp [aRest, b_4, i_i, k0_, k3_]
      · skip
        have k0_ : (L i).1 = 0 := (ho_eq (j := 0) h4 (by decide)).mp c_26
        refine ex_ldc_w (pc := 29) dX7_rest_29 cn_X7_373 ?_
        refine ex_goto (pc := 32) (tgt := 37) dX7_rest_32 (by decide) ?_
        refine ex_ret dX7_rest_37 rfl ?_
        refine qi_mk ⟨rfl, ?_⟩
        simp [aRest, b_4, i_i, k0_, k3_]
  · skip
    have b_4 := bF c_4
    refine ex_ldc (pc := 7) dX7_rest_7 cn_X7_161 ?_
    refine ex_ret dX7_rest_9 rfl ?_
    refine qi_mk ⟨rfl, ?_⟩
    simp [aRest, b_4]

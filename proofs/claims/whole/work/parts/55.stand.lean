/-! public calls: where one more had best stand -/
abbrev nwS (s : Nat → Int32) (nt : Nat) (kd si : Int32) (c : Nat) : Int64 := setL (fun t => seeS s kd si c (rchS s nt kd (nI 0) si) t) 48
def gnS (s : Nat → Int32) (n nt : Nat) (kd si : Int32) (c : Nat) : Nat := cntL (nwS s nt kd si c &&& setL (bld s nt n) 48)
theorem gn_m {s : Nat → Int32} {n nt : Nat} {kd si : Int32} {c : Nat} (hf : fre s n c = true) : cntL (nwS s nt kd si c &&& (setL (wtc s nt n) 48 ^^^ (-1))) = gnS s n nt kd si c := by
  unfold gnS
  congr 1
  apply bL_ext
  intro i hi
  rw [bL_and, bL_and, bL_not _ hi, b48 hi, b48 hi, b48 hi]
  by_cases h48 : i < 48
  · have hw : seeS s kd si c (rchS s nt kd (nI 0) si) i = true → wll s i = false := by
      intro q
      unfold seeS at q
      rw [Bool.or_eq_true] at q
      rcases q with q | q
      · have e := of_decide_eq_true q
        subst e
        unfold fre at hf
        rw [Bool.and_eq_true] at hf
        simpa using hf.1
      · rw [Bool.and_eq_true, Bool.and_eq_true, Bool.and_eq_true] at q
        simpa using q.1.1.1
    simp only [h48, decide_true, Bool.true_and, bld]
    cases q : seeS s kd si c (rchS s nt kd (nI 0) si) i with
    | false => rfl
    | true => rw [hw q]; simp
  · simp [h48]
def stF (fr : Nat → Bool) (gn : Nat → Nat) : Nat → Option (Nat × Nat)
  | 0 => none
  | c + 1 => if fr c then (match stF fr gn c with
    | none => some (c, gn c)
    | some x => if x.2 < gn c then some (c, gn c) else some x) else stF fr gn c
def stb (e : Int32) (o : Option (Nat × Nat)) : Int32 := match o with
  | none => e
  | some x => nI x.1
def stm (o : Option (Nat × Nat)) : Int32 := match o with
  | none => -1
  | some x => nI x.2
theorem stF_b {fr : Nat → Bool} {gn : Nat → Nat} (hg : ∀ c, gn c ≤ 64) : ∀ {c : Nat} {x : Nat × Nat}, stF fr gn c = some x → x.1 < c ∧ x.2 ≤ 64 := by
  intro c
  induction c with
  | zero => intro x h; cases h
  | succ c ih =>
    intro x h
    rw [stF] at h
    by_cases hf : fr c = true
    · rw [if_pos hf] at h
      cases e : stF fr gn c with
      | none => rw [e] at h; cases h; exact ⟨Nat.lt_succ_self _, hg c⟩
      | some y =>
        rw [e] at h
        simp only [] at h
        obtain ⟨y1, y2⟩ := ih e
        by_cases q : y.2 < gn c
        · rw [if_pos q] at h; cases h; exact ⟨Nat.lt_succ_self _, hg c⟩
        · rw [if_neg q] at h; cases h; exact ⟨by omega, y2⟩
    · rw [if_neg hf] at h
      obtain ⟨y1, y2⟩ := ih h
      exact ⟨by omega, y2⟩
theorem stF_no {fr : Nat → Bool} {gn : Nat → Nat} {c : Nat} (h : ¬ fr c = true) : stF fr gn (c + 1) = stF fr gn c := by rw [stF, if_neg h]
theorem stF_le {fr : Nat → Bool} {gn : Nat → Nat} (hg : ∀ c, gn c ≤ 64) {c : Nat} (h : fr c = true) (h2 : nI (gn c) ≤ stm (stF fr gn c)) : stF fr gn (c + 1) = stF fr gn c := by
  rw [stF, if_pos h]
  cases e : stF fr gn c with
  | none =>
    rw [e] at h2
    exact absurd h2 (fun z => by
      have z2 : nI (gn c) ≤ (-1 : Int32) := z
      have := hg c
      rw [Int32.le_iff_toInt_le, nI_toInt (by omega)] at z2
      have e1 : (-1 : Int32).toInt = -1 := by decide
      omega)
  | some x =>
    rw [e] at h2
    have hx := stF_b hg e
    have := hg c
    have q : ¬ x.2 < gn c := fun z => absurd h2 (nI_ge z (by omega))
    simp only [if_neg q]
theorem stF_gt {fr : Nat → Bool} {gn : Nat → Nat} (hg : ∀ c, gn c ≤ 64) {c : Nat} (h : fr c = true) (h2 : ¬ nI (gn c) ≤ stm (stF fr gn c)) : stF fr gn (c + 1) = some (c, gn c) := by
  rw [stF, if_pos h]
  cases e : stF fr gn c with
  | none => rfl
  | some x =>
    rw [e] at h2
    have hx := stF_b hg e
    have q : x.2 < gn c := Nat.not_le.mp (fun z => h2 (nI_le z (by omega)))
    simp only [if_pos q]
theorem gnS_le {s : Nat → Int32} {n nt : Nat} {kd si : Int32} (c : Nat) : gnS s n nt kd si c ≤ 64 := cntL_le _
def stS (s : Nat → Int32) (n nt : Nat) (kd si : Int32) : Option (Nat × Nat) := stF (fre s n) (gnS s n nt kd si) 48
def aStd (o : Option (Nat × Nat)) (w : Int32) : Int32 := if w = nI 0 then stb (-1000000005) o else (match o with
  | none => -1000000005
  | some x => nI x.2)
def aStand (s : Nat → Int32) (n nt : Nat) (kd si w : Int32) : Int32 := if bw kd 6 && (bw si 4 && bw w 2) then (if n < 8 then aStd (stS s n nt kd si) w else -1000000003) else -1000000001
theorem CR.thx {g : Gl} {h h' : AH} {n nt : Nat} {s : Nat → Int32} (a : CR g h 1 s n nt) (f : FrX thX g h h') : CR g h' 1 s n nt := a.fr f (fun k hk => by unfold rgX at hk; unfold thX; omega)
set_option maxHeartbeats 4000000 in
set_option maxRecDepth 100000 in
theorem c_W_stand_l {g : Gl} {d ks : Nat} {h : AH} {ik wc : Int32} {s : Nat → Int32} {n nt : Nat} (hd : 4 ≤ d) {kd w : Int32} {σ : Nat} (hσ : σ < 4) : ∀ (m c : Nat) (l9 : Option Value) (h1 : AH), h1[0]? = some (wtC g ik wc) → CR g h1 1 s n nt → ThB g h1 → FrX thX g h h1 → c + m = 48 → Ex g mX6_stand d 0 ks 62 [some (.ref (g.1 + 0)), some (.int kd), some (.int (nI σ)), some (.int w), some (.long (setL (bld s nt n) 48)), none, some (.int (stb (-1000000005) (stF (fre s n) (gnS s n nt kd (nI σ)) (c)))), some (.int (stm (stF (fre s n) (gnS s n nt kd (nI σ)) (c)))), some (.int (nI (c))), l9] [] h1 (qi (fun h' r => (ThB g h' ∧ FrX thX g h h') ∧ r = aStd (stS s n nt kd (nI σ)) w)) := by
  intro m
  induction m with
  | zero =>
    intro c l9 h1 hW1 hC1 hT1 hF hk
    refine ex_iload (pc := 62) dX6_stand_62 rfl ?_
    refine ex_bipush (pc := 64) (v := (nI 48)) dX6_stand_64 (by decide) ?_
    refine bx_icmp_ge_t (pc := 66) (tgt := 133) dX6_stand_66 (by decide) (by rw [show c = 48 by omega]; exact Int32.le_refl _) ?_
    refine ex_iload_n (pc := 133) dX6_stand_133 rfl ?_
    refine ex_if_eq (pc := 134) (tgt := 144) dX6_stand_134 (by decide) (fun c_134 => ?_) (fun c_134 => ?_)
    · skip
      refine ex_iload (pc := 144) dX6_stand_144 rfl ?_
      refine ex_goto (pc := 146) (tgt := 151) dX6_stand_146 (by decide) ?_
      refine ex_ret dX6_stand_151 rfl ?_
      obtain rfl : c = 48 := by omega
      refine qi_mk ⟨⟨hT1, hF⟩, ?_⟩
      have es : stS s n nt kd (nI σ) = stF (fre s n) (gnS s n nt kd (nI σ)) 48 := rfl
      rw [es]
      have c0 : w = nI 0 := c_134
      unfold aStd
      rw [if_pos c0]
    · skip
      refine ex_iload (pc := 137) dX6_stand_137 rfl ?_
      refine ex_ldc (pc := 139) dX6_stand_139 cn_X6_142 ?_
      refine ex_icmp_ne (pc := 141) (tgt := 149) dX6_stand_141 (by decide) (fun c_141 => ?_) (fun c_141 => ?_)
      · skip
        refine ex_iload (pc := 149) dX6_stand_149 rfl ?_
        refine ex_ret dX6_stand_151 rfl ?_
        obtain rfl : c = 48 := by omega
        refine qi_mk ⟨⟨hT1, hF⟩, ?_⟩
        have es : stS s n nt kd (nI σ) = stF (fre s n) (gnS s n nt kd (nI σ)) 48 := rfl
        rw [es]
        have c0 : ¬ w = nI 0 := c_134
        unfold aStd
        rw [if_neg c0]
        cases e : stF (fre s n) (gnS s n nt kd (nI σ)) 48 with
        | none => rw [e] at c_141; exact absurd rfl c_141
        | some x => rfl
      · skip
        refine ex_iload (pc := 144) dX6_stand_144 rfl ?_
        refine ex_goto (pc := 146) (tgt := 151) dX6_stand_146 (by decide) ?_
        refine ex_ret dX6_stand_151 rfl ?_
        obtain rfl : c = 48 := by omega
        refine qi_mk ⟨⟨hT1, hF⟩, ?_⟩
        have es : stS s n nt kd (nI σ) = stF (fre s n) (gnS s n nt kd (nI σ)) 48 := rfl
        rw [es]
        have c0 : ¬ w = nI 0 := c_134
        unfold aStd
        rw [if_neg c0]
        cases e : stF (fre s n) (gnS s n nt kd (nI σ)) 48 with
        | none => rfl
        | some x =>
          rw [e] at c_141
          have c1 : nI x.1 = -1000000005 := c_141
          have hx := stF_b (gnS_le (s := s)) e
          have q := congrArg Int32.toInt c1
          rw [nI_toInt (by omega)] at q
          have e1 : (-1000000005 : Int32).toInt = -1000000005 := by decide
          omega
  | succ m ih =>
    intro c l9 h1 hW1 hC1 hT1 hF hk
    obtain ⟨x1, x2, x3, x4, h37⟩ := hT1.2.1
    refine ex_iload (pc := 62) dX6_stand_62 rfl ?_
    refine ex_bipush (pc := 64) (v := (nI 48)) dX6_stand_64 (by decide) ?_
    refine bx_icmp_ge_f (pc := 66) (tgt := 133) dX6_stand_66 (by decide) (nI_ge (by omega) (by omega)) ?_
    refine ex_aload_n (pc := 69) dX6_stand_69 rfl ?_
    refine ex_get (pc := 70) dX6_stand_70 fl_X6_10 hW1 rfl ?_
    refine ex_iload (pc := 73) dX6_stand_73 rfl ?_
    refine cx_VL1i (pc := 75) dX6_stand_75 lk_X6_74 hC1.1.1 rfl (Nat.le_of_ble_eq_true rfl) (Nat.le_of_ble_eq_true rfl) (by omega) (c_R_isFree hC1.1 (by omega) (show c < 48 by omega)) (fun h_75 x_75 q_75 => ?_)
    obtain ⟨e_75, f_75⟩ := q_75
    rw [e_75, f_75]
    refine ex_if_eq (pc := 78) (tgt := 127) dX6_stand_78 (by decide) (fun c_78 => ?_) (fun c_78 => ?_)
    · skip
      first | refine sx_inc (pc := 127) dX6_stand_127 rfl rfl (by decide) ?_ | refine sx_iinc (pc := 127) dX6_stand_127 rfl rfl (by decide) ?_
      show Ex _ _ _ _ _ _ [_, _, _, _, _, _, _, _, _, _] _ _ _
      refine ex_goto (pc := 130) (tgt := 62) dX6_stand_130 (by decide) ?_
      have z := ih (c + 1) l9 h1 hW1 hC1 hT1 hF (by omega)
      rw [stF_no (fun q => bI_0.mp c_78 q)] at z
      exact z
    · skip
      refine ex_aload_n (pc := 81) dX6_stand_81 rfl ?_
      refine ex_get (pc := 82) dX6_stand_82 fl_X6_29 hW1 rfl ?_
      refine ex_iload_n (pc := 85) dX6_stand_85 rfl ?_
      refine ex_iload (pc := 86) dX6_stand_86 rfl ?_
      refine ex_iload_n (pc := 88) dX6_stand_88 rfl ?_
      refine ex_iconst (pc := 89) (v := (nI 0)) dX6_stand_89 (by decide) ?_
      refine cx_VL4v (pc := 90) dX6_stand_90 lk_X6_202 h37 rfl (Nat.le_of_ble_eq_true rfl) (Nat.le_of_ble_eq_true rfl) (by omega) (c_P_become h37 _ _ _ _) (fun h_90 q_90 => ?_)
      rw [q_90]
      have f2 : FrX thX g h1 (h1.set 37 (po kd (nI c) (nI σ) (nI 0))) := FrX.st ⟨by omega, by omega⟩ (nscr (by omega))
      have hW2 : (h1.set 37 (po kd (nI c) (nI σ) (nI 0)))[0]? = some (wtC g ik wc) := gs_ne (by decide) hW1
      have h37b : (h1.set 37 (po kd (nI c) (nI σ) (nI 0)))[37]? = some (po kd (nI c) (nI σ) (nI 0)) := gs_eq h37
      have hC2 : CR g (h1.set 37 (po kd (nI c) (nI σ) (nI 0))) 1 s n nt := hC1.thx f2
      have hT2 : ThB g (h1.set 37 (po kd (nI c) (nI σ) (nI 0))) := by
        obtain ⟨t1, -, ⟨f3, t3⟩, f4, t4⟩ := hT1
        exact ⟨t1.fr (S := fun q => q = 37) (by omega) (FrX.st rfl (nscr (by omega))) (fun q hq z => by have := hq.2; omega), ⟨_, _, _, _, h37b⟩, ⟨f3, gs_ne (by decide) t3⟩, f4, gs_ne (by decide) t4⟩
      refine ex_aload_n (pc := 93) dX6_stand_93 rfl ?_
      refine ex_get (pc := 94) dX6_stand_94 fl_X6_10 hW2 rfl ?_
      refine ex_aload_n (pc := 97) dX6_stand_97 rfl ?_
      refine ex_get (pc := 98) dX6_stand_98 fl_X6_29 hW2 rfl ?_
      refine cx_VL1l (pc := 101) dX6_stand_101 lk_X6_120 hC2.1.1 rfl (Nat.le_of_ble_eq_true rfl) (Nat.le_of_ble_eq_true rfl) (by omega) (c_R_sightOf hC2 (by omega) h37b (show c < 48 by omega) (by omega)) (fun h_101 x_101 q_101 => ?_)
      obtain ⟨hs_101, f_101⟩ := q_101
      rw [f_101]
      have hW3 := hs_101.at (nscr (by omega)) hW2
      have hC3 := hC2.sq hs_101
      have hT3 := hT2.sq hs_101
      have hF3 := (hF.tr f2).tr hs_101.fr
      refine ex_lload (pc := 104) dX6_stand_104 rfl ?_
      refine ex_land (pc := 106) dX6_stand_106 ?_
      refine cx_SL1i (pc := 107) dX6_stand_107 lk_X6_124 rfl (Nat.le_of_ble_eq_true rfl) (Nat.le_of_ble_eq_true rfl) (by omega) (c_lbc _) (fun h_107 x_107 q_107 => ?_)
      obtain ⟨e_107, f_107⟩ := q_107
      rw [e_107, f_107, show cntL (nwS s nt kd (nI σ) c &&& setL (bld s nt n) 48) = gnS s n nt kd (nI σ) c from rfl]
      refine sx_istore (pc := 110) dX6_stand_110 rfl (by decide) ?_
      show Ex _ _ _ _ _ _ [_, _, _, _, _, _, _, _, _, _] _ _ _
      refine ex_iload (pc := 112) dX6_stand_112 rfl ?_
      refine ex_iload (pc := 114) dX6_stand_114 rfl ?_
      refine ex_icmp_le (pc := 116) (tgt := 127) dX6_stand_116 (by decide) (fun c_116 => ?_) (fun c_116 => ?_)
      · skip
        first | refine sx_inc (pc := 127) dX6_stand_127 rfl rfl (by decide) ?_ | refine sx_iinc (pc := 127) dX6_stand_127 rfl rfl (by decide) ?_
        show Ex _ _ _ _ _ _ [_, _, _, _, _, _, _, _, _, _] _ _ _
        refine ex_goto (pc := 130) (tgt := 62) dX6_stand_130 (by decide) ?_
        have z := ih (c + 1) (some (.int (nI (gnS s n nt kd (nI σ) c)))) _ hW3 hC3 hT3 hF3 (by omega)
        rw [stF_le gnS_le (bT c_78) c_116] at z
        exact z
      · skip
        refine ex_iload (pc := 119) dX6_stand_119 rfl ?_
        refine sx_istore (pc := 121) dX6_stand_121 rfl (by decide) ?_
        show Ex _ _ _ _ _ _ [_, _, _, _, _, _, _, _, _, _] _ _ _
        refine ex_iload (pc := 123) dX6_stand_123 rfl ?_
        refine sx_istore (pc := 125) dX6_stand_125 rfl (by decide) ?_
        show Ex _ _ _ _ _ _ [_, _, _, _, _, _, _, _, _, _] _ _ _
        first | refine sx_inc (pc := 127) dX6_stand_127 rfl rfl (by decide) ?_ | refine sx_iinc (pc := 127) dX6_stand_127 rfl rfl (by decide) ?_
        show Ex _ _ _ _ _ _ [_, _, _, _, _, _, _, _, _, _] _ _ _
        refine ex_goto (pc := 130) (tgt := 62) dX6_stand_130 (by decide) ?_
        have z := ih (c + 1) (some (.int (nI (gnS s n nt kd (nI σ) c)))) _ hW3 hC3 hT3 hF3 (by omega)
        rw [stF_gt gnS_le (bT c_78) c_116] at z
        exact z
set_option maxHeartbeats 4000000 in
set_option maxRecDepth 100000 in
theorem c_W_stand {g : Gl} {d ks : Nat} {h : AH} {ik wc : Int32} {s : Nat → Int32} {n nt : Nat} (hW : h[0]? = some (wtC g ik wc)) (hC : CR g h 1 s n nt) (hT : ThB g h) (hd : 6 ≤ d) (kd si w : Int32) : Ex g mX6_stand d 0 ks 0 [some (.ref (g.1 + 0)), some (.int kd), some (.int si), some (.int w), none, none, none, none, none, none] [] h (qi (fun h' r => (ThB g h' ∧ FrX thX g h h') ∧ r = aStand s n nt kd si w)) := by
  have hR := hC.1
  have hP := hC.2.1
  have hn8 := hP.2.1
  have hN := hR.2.1
  obtain ⟨fp, hfp, hfp2⟩ := hR.2.2.2.1
  refine ex_iload_n (pc := 0) dX6_stand_0 rfl ?_
  refine ex_bipush (pc := 1) (v := (nI 6)) dX6_stand_1 (by decide) ?_
  refine cx_SL2i (pc := 3) dX6_stand_3 lk_X6_69 rfl (Nat.le_of_ble_eq_true rfl) (Nat.le_of_ble_eq_true rfl) (by omega) (c_ib _ _) (fun h_3 x_3 q_3 => ?_)
  obtain ⟨e_3, f_3⟩ := q_3
  rw [e_3, f_3]
  refine ex_if_eq (pc := 6) (tgt := 25) dX6_stand_6 (by decide) (fun c_6 => ?_) (fun c_6 => ?_)
  · skip
    have b_6 := bF c_6
    refine ex_ldc (pc := 25) dX6_stand_25 cn_X6_73 ?_
    refine ex_ret dX6_stand_27 rfl ?_
    refine qi_mk ⟨⟨hT, FrX.rf⟩, ?_⟩
    simp [aStand, b_6]
  · skip
    have b_6 := bT c_6
    refine ex_iload_n (pc := 9) dX6_stand_9 rfl ?_
    refine ex_iconst (pc := 10) (v := (nI 4)) dX6_stand_10 (by decide) ?_
    refine cx_SL2i (pc := 11) dX6_stand_11 lk_X6_69 rfl (Nat.le_of_ble_eq_true rfl) (Nat.le_of_ble_eq_true rfl) (by omega) (c_ib _ _) (fun h_11 x_11 q_11 => ?_)
    obtain ⟨e_11, f_11⟩ := q_11
    rw [e_11, f_11]
    refine ex_if_eq (pc := 14) (tgt := 25) dX6_stand_14 (by decide) (fun c_14 => ?_) (fun c_14 => ?_)
    · skip
      have b_14 := bF c_14
      refine ex_ldc (pc := 25) dX6_stand_25 cn_X6_73 ?_
      refine ex_ret dX6_stand_27 rfl ?_
      refine qi_mk ⟨⟨hT, FrX.rf⟩, ?_⟩
      simp [aStand, b_6, b_14]
    · skip
      have b_14 := bT c_14
      refine ex_iload_n (pc := 17) dX6_stand_17 rfl ?_
      refine ex_iconst (pc := 18) (v := (nI 2)) dX6_stand_18 (by decide) ?_
      refine cx_SL2i (pc := 19) dX6_stand_19 lk_X6_69 rfl (Nat.le_of_ble_eq_true rfl) (Nat.le_of_ble_eq_true rfl) (by omega) (c_ib _ _) (fun h_19 x_19 q_19 => ?_)
      obtain ⟨e_19, f_19⟩ := q_19
      rw [e_19, f_19]
      refine ex_if_ne (pc := 22) (tgt := 28) dX6_stand_22 (by decide) (fun c_22 => ?_) (fun c_22 => ?_)
      · skip
        have b_22 := bT c_22
        obtain ⟨σ, hσ, rfl⟩ := bw_ex b_14
        refine ex_aload_n (pc := 28) dX6_stand_28 rfl ?_
        refine ex_get (pc := 29) dX6_stand_29 fl_X6_10 hW rfl ?_
        refine ex_get (pc := 32) dX6_stand_32 fl_X6_79 hR.1 rfl ?_
        rw [hN]
        refine ex_bipush (pc := 35) (v := (nI 8)) dX6_stand_35 (by decide) ?_
        refine ex_icmp_lt (pc := 37) (tgt := 43) dX6_stand_37 (by decide) (fun c_37 => ?_) (fun c_37 => ?_)
        · skip
          have h_37 : n < 8 := (nI_ltI (by omega) (by omega)).mp c_37
          refine ex_aload_n (pc := 43) dX6_stand_43 rfl ?_
          refine ex_get (pc := 44) dX6_stand_44 fl_X6_10 hW rfl ?_
          refine cx_VL0l (pc := 47) dX6_stand_47 lk_X6_186 hR.1 rfl (Nat.le_of_ble_eq_true rfl) (Nat.le_of_ble_eq_true rfl) (by omega) (c_R_blindCells hC (by omega)) (fun h_47 x_47 q_47 => ?_)
          obtain ⟨hs_47, f_47⟩ := q_47
          rw [f_47]
          refine sx_lstore (pc := 50) dX6_stand_50 rfl (by decide) ?_
          show Ex _ _ _ _ _ _ [_, _, _, _, _, _, _, _, _, _] _ _ _
          refine ex_ldc (pc := 52) dX6_stand_52 cn_X6_142 ?_
          refine sx_istore (pc := 54) dX6_stand_54 rfl (by decide) ?_
          show Ex _ _ _ _ _ _ [_, _, _, _, _, _, _, _, _, _] _ _ _
          refine ex_iconst (pc := 56) (v := (-1)) dX6_stand_56 (by decide) ?_
          refine sx_istore (pc := 57) dX6_stand_57 rfl (by decide) ?_
          show Ex _ _ _ _ _ _ [_, _, _, _, _, _, _, _, _, _] _ _ _
          refine ex_iconst (pc := 59) (v := (nI 0)) dX6_stand_59 (by decide) ?_
          refine sx_istore (pc := 60) dX6_stand_60 rfl (by decide) ?_
          show Ex _ _ _ _ _ _ [_, _, _, _, _, _, _, _, _, _] _ _ _
          refine (c_W_stand_l (h := h) (by omega) hσ 48 0 _ h_47 (hs_47.at (nscr (by omega)) hW) (hC.sq hs_47) (hT.sq hs_47) hs_47.fr (by omega)).mono (fun h' r a => ?_)
          obtain ⟨x, e, a1, a2⟩ := a
          exact ⟨x, e, a1, by rw [a2]; simp only [aStand, b_6, b_14, b_22, h_37, Bool.and_self, Bool.and_true, Bool.true_and, Bool.and_false, Bool.false_and, Bool.or_true, Bool.true_or, Bool.or_false, Bool.false_or, Bool.not_true, Bool.not_false, Bool.false_eq_true, ↓reduceIte]⟩
        · skip
          have h_37 : ¬ n < 8 := fun z => c_37 (nI_lt z (by omega))
          refine ex_ldc (pc := 40) dX6_stand_40 cn_X6_82 ?_
          refine ex_ret dX6_stand_42 rfl ?_
          refine qi_mk ⟨⟨hT, FrX.rf⟩, ?_⟩
          simp [aStand, b_6, b_14, b_22, h_37]
      · skip
        have b_22 := bF c_22
        refine ex_ldc (pc := 25) dX6_stand_25 cn_X6_73 ?_
        refine ex_ret dX6_stand_27 rfl ?_
        refine qi_mk ⟨⟨hT, FrX.rf⟩, ?_⟩
        simp [aStand, b_6, b_14, b_22]
theorem stm_m1 {fr : Nat → Bool} {gn : Nat → Nat} (hg : ∀ c, gn c ≤ 64) (c : Nat) : (-1 : Int32) ≤ stm (stF fr gn c) := by
  cases e : stF fr gn c with
  | none => exact Int32.le_refl _
  | some x =>
    have hx := stF_b hg e
    show (-1 : Int32) ≤ nI x.2
    rw [Int32.le_iff_toInt_le, nI_toInt (by omega)]
    have e1 : (-1 : Int32).toInt = -1 := by decide
    omega
set_option maxHeartbeats 4000000 in
set_option maxRecDepth 100000 in
theorem c_M_stand_l {g : Gl} {d ks : Nat} {h : AH} {z s : Nat → Int32} {n nt : Nat} (hR : MR g h z s n nt) (hd : 4 ≤ d) {kd w : Int32} {σ : Nat} (hσ : σ < 4) : ∀ (m c : Nat) (l : Option Value), c + m = 48 → Ex g mX7_stand d 0 ks 79 [some (.ref (g.1 + 75)), some (.int kd), some (.int (nI σ)), some (.int w), some (.long (setL (wtc s nt n) 48)), none, some (.int (rchS s nt kd (nI 0) (nI σ))), some (.int (stb (-1) (stF (fre s n) (gnS s n nt kd (nI σ)) (c)))), some (.int (stm (stF (fre s n) (gnS s n nt kd (nI σ)) (c)))), some (.int (nI (c))), l] [] h (qi (fun h' r => h' = h ∧ r = aStd (stS s n nt kd (nI σ)) w)) := by
  have hM := hR.1
  have hP := hR.2.1
  have hn8 := hP.2.1
  have hN := hP.1
  intro m
  induction m with
  | zero =>
    intro c l hk
    refine ex_iload (pc := 79) dX7_stand_79 rfl ?_
    refine ex_bipush (pc := 81) (v := (nI 48)) dX7_stand_81 (by decide) ?_
    refine bx_icmp_ge_t (pc := 83) (tgt := 159) dX7_stand_83 (by decide) (by rw [show c = 48 by omega]; exact Int32.le_refl _) ?_
    refine ex_iload (pc := 159) dX7_stand_159 rfl ?_
    refine ex_if_ge (pc := 161) (tgt := 169) dX7_stand_161 (by decide) (fun c_161 => ?_) (fun c_161 => ?_)
    · skip
      refine ex_iload_n (pc := 169) dX7_stand_169 rfl ?_
      refine ex_if_ne (pc := 170) (tgt := 178) dX7_stand_170 (by decide) (fun c_170 => ?_) (fun c_170 => ?_)
      · skip
        refine ex_iload (pc := 178) dX7_stand_178 rfl ?_
        refine ex_ret dX7_stand_180 rfl ?_
        obtain rfl : c = 48 := by omega
        refine qi_mk ⟨rfl, ?_⟩
        have es : stS s n nt kd (nI σ) = stF (fre s n) (gnS s n nt kd (nI σ)) 48 := rfl
        rw [es]
        cases e : stF (fre s n) (gnS s n nt kd (nI σ)) 48 with
        | none => rw [e] at c_161; exact absurd c_161 (by decide)
        | some x =>
          have c0 : ¬ w = nI 0 := c_170
          rw [aStd, if_neg c0]
          rfl
      · skip
        refine ex_iload (pc := 173) dX7_stand_173 rfl ?_
        refine ex_goto (pc := 175) (tgt := 180) dX7_stand_175 (by decide) ?_
        refine ex_ret dX7_stand_180 rfl ?_
        obtain rfl : c = 48 := by omega
        refine qi_mk ⟨rfl, ?_⟩
        have es : stS s n nt kd (nI σ) = stF (fre s n) (gnS s n nt kd (nI σ)) 48 := rfl
        rw [es]
        cases e : stF (fre s n) (gnS s n nt kd (nI σ)) 48 with
        | none => rw [e] at c_161; exact absurd c_161 (by decide)
        | some x =>
          have c0 : w = nI 0 := c_170
          rw [aStd, if_pos c0]
          rfl
    · skip
      refine ex_ldc (pc := 164) dX7_stand_164 cn_X7_68 ?_
      refine ex_goto (pc := 166) (tgt := 180) dX7_stand_166 (by decide) ?_
      refine ex_ret dX7_stand_180 rfl ?_
      obtain rfl : c = 48 := by omega
      refine qi_mk ⟨rfl, ?_⟩
      have es : stS s n nt kd (nI σ) = stF (fre s n) (gnS s n nt kd (nI σ)) 48 := rfl
      rw [es]
      cases e : stF (fre s n) (gnS s n nt kd (nI σ)) 48 with
      | none => rw [aStd]; split <;> rfl
      | some x =>
        rw [e] at c_161
        have hx := stF_b (gnS_le (s := s)) e
        exact absurd (nI_pos' (by omega)) c_161
  | succ m ih =>
    intro c l hk
    refine ex_iload (pc := 79) dX7_stand_79 rfl ?_
    refine ex_bipush (pc := 81) (v := (nI 48)) dX7_stand_81 (by decide) ?_
    refine bx_icmp_ge_f (pc := 83) (tgt := 159) dX7_stand_83 (by decide) (nI_ge (by omega) (by omega)) ?_
    refine ex_aload_n (pc := 86) dX7_stand_86 rfl ?_
    refine ex_iload (pc := 87) dX7_stand_87 rfl ?_
    refine cx_VL1i (pc := 89) dX7_stand_89 lk_X7_162 hM.1 rfl (Nat.le_of_ble_eq_true rfl) (Nat.le_of_ble_eq_true rfl) (by omega) (c_M_isFree hM hN hn8 (by omega) (show c < 48 by omega)) (fun h_89 x_89 q_89 => ?_)
    obtain ⟨e_89, f_89⟩ := q_89
    rw [e_89, f_89]
    refine ex_if_eq (pc := 92) (tgt := 118) dX7_stand_92 (by decide) (fun c_92 => ?_) (fun c_92 => ?_)
    · skip
      refine ex_iconst (pc := 118) (v := (-1)) dX7_stand_118 (by decide) ?_
      refine sx_istore (pc := 119) dX7_stand_119 rfl (by decide) ?_
      show Ex _ _ _ _ _ _ [_, _, _, _, _, _, _, _, _, _, _] _ _ _
      refine ex_iload (pc := 121) dX7_stand_121 rfl ?_
      refine ex_iload (pc := 123) dX7_stand_123 rfl ?_
      refine ex_icmp_le (pc := 125) (tgt := 133) dX7_stand_125 (by decide) (fun c_125 => ?_) (fun c_125 => ?_)
      · skip
        refine ex_iload (pc := 133) dX7_stand_133 rfl ?_
        refine sx_istore (pc := 135) dX7_stand_135 rfl (by decide) ?_
        show Ex _ _ _ _ _ _ [_, _, _, _, _, _, _, _, _, _, _] _ _ _
        refine ex_iload (pc := 137) dX7_stand_137 rfl ?_
        refine ex_iload (pc := 139) dX7_stand_139 rfl ?_
        refine ex_icmp_le (pc := 141) (tgt := 149) dX7_stand_141 (by decide) (fun c_141 => ?_) (fun c_141 => ?_)
        · skip
          refine ex_iload (pc := 149) dX7_stand_149 rfl ?_
          refine sx_istore (pc := 151) dX7_stand_151 rfl (by decide) ?_
          show Ex _ _ _ _ _ _ [_, _, _, _, _, _, _, _, _, _, _] _ _ _
          first | refine sx_inc (pc := 153) dX7_stand_153 rfl rfl (by decide) ?_ | refine sx_iinc (pc := 153) dX7_stand_153 rfl rfl (by decide) ?_
          show Ex _ _ _ _ _ _ [_, _, _, _, _, _, _, _, _, _, _] _ _ _
          refine ex_goto (pc := 156) (tgt := 79) dX7_stand_156 (by decide) ?_
          have z := ih (c + 1) (some (.int (-1))) (by omega)
          rw [stF_no (fun q => bI_0.mp c_92 q)] at z
          exact z
        · skip
          refine ex_iload (pc := 144) dX7_stand_144 rfl ?_
          refine ex_goto (pc := 146) (tgt := 151) dX7_stand_146 (by decide) ?_
          refine sx_istore (pc := 151) dX7_stand_151 rfl (by decide) ?_
          show Ex _ _ _ _ _ _ [_, _, _, _, _, _, _, _, _, _, _] _ _ _
          first | refine sx_inc (pc := 153) dX7_stand_153 rfl rfl (by decide) ?_ | refine sx_iinc (pc := 153) dX7_stand_153 rfl rfl (by decide) ?_
          show Ex _ _ _ _ _ _ [_, _, _, _, _, _, _, _, _, _, _] _ _ _
          refine ex_goto (pc := 156) (tgt := 79) dX7_stand_156 (by decide) ?_
          exact absurd (stm_m1 gnS_le c) c_141
      · skip
        refine ex_iload (pc := 128) dX7_stand_128 rfl ?_
        refine ex_goto (pc := 130) (tgt := 135) dX7_stand_130 (by decide) ?_
        refine sx_istore (pc := 135) dX7_stand_135 rfl (by decide) ?_
        show Ex _ _ _ _ _ _ [_, _, _, _, _, _, _, _, _, _, _] _ _ _
        refine ex_iload (pc := 137) dX7_stand_137 rfl ?_
        refine ex_iload (pc := 139) dX7_stand_139 rfl ?_
        refine ex_icmp_le (pc := 141) (tgt := 149) dX7_stand_141 (by decide) (fun c_141 => ?_) (fun c_141 => ?_)
        · skip
          refine ex_iload (pc := 149) dX7_stand_149 rfl ?_
          refine sx_istore (pc := 151) dX7_stand_151 rfl (by decide) ?_
          show Ex _ _ _ _ _ _ [_, _, _, _, _, _, _, _, _, _, _] _ _ _
          first | refine sx_inc (pc := 153) dX7_stand_153 rfl rfl (by decide) ?_ | refine sx_iinc (pc := 153) dX7_stand_153 rfl rfl (by decide) ?_
          show Ex _ _ _ _ _ _ [_, _, _, _, _, _, _, _, _, _, _] _ _ _
          refine ex_goto (pc := 156) (tgt := 79) dX7_stand_156 (by decide) ?_
          exact absurd (stm_m1 gnS_le c) c_125
        · skip
          refine ex_iload (pc := 144) dX7_stand_144 rfl ?_
          refine ex_goto (pc := 146) (tgt := 151) dX7_stand_146 (by decide) ?_
          refine sx_istore (pc := 151) dX7_stand_151 rfl (by decide) ?_
          show Ex _ _ _ _ _ _ [_, _, _, _, _, _, _, _, _, _, _] _ _ _
          first | refine sx_inc (pc := 153) dX7_stand_153 rfl rfl (by decide) ?_ | refine sx_iinc (pc := 153) dX7_stand_153 rfl rfl (by decide) ?_
          show Ex _ _ _ _ _ _ [_, _, _, _, _, _, _, _, _, _, _] _ _ _
          refine ex_goto (pc := 156) (tgt := 79) dX7_stand_156 (by decide) ?_
          exact absurd (stm_m1 gnS_le c) c_125
    · skip
      refine ex_aload_n (pc := 95) dX7_stand_95 rfl ?_
      refine ex_iload_n (pc := 96) dX7_stand_96 rfl ?_
      refine ex_iload (pc := 97) dX7_stand_97 rfl ?_
      refine ex_iload_n (pc := 99) dX7_stand_99 rfl ?_
      refine ex_iload (pc := 100) dX7_stand_100 rfl ?_
      refine cx_VL4l (pc := 102) dX7_stand_102 lk_X7_128 hM.1 rfl (Nat.le_of_ble_eq_true rfl) (Nat.le_of_ble_eq_true rfl) (by omega) (c_M_seenFrom hR (by omega) _ _ (show c < 48 by omega) hσ) (fun h_102 x_102 q_102 => ?_)
      obtain ⟨e_102, f_102⟩ := q_102
      rw [e_102, f_102]
      refine ex_lload (pc := 105) dX7_stand_105 rfl ?_
      refine ex_ldc2_w (pc := 107) dX7_stand_107 cn_X7_146 ?_
      refine ex_lxor (pc := 110) dX7_stand_110 ?_
      refine ex_land (pc := 111) dX7_stand_111 ?_
      refine cx_SL1i (pc := 112) dX7_stand_112 lk_X7_176 rfl (Nat.le_of_ble_eq_true rfl) (Nat.le_of_ble_eq_true rfl) (by omega) (c_M_many _) (fun h_112 x_112 q_112 => ?_)
      obtain ⟨e_112, f_112⟩ := q_112
      rw [e_112, f_112, gn_m (bT c_92)]
      refine ex_goto (pc := 115) (tgt := 119) dX7_stand_115 (by decide) ?_
      refine sx_istore (pc := 119) dX7_stand_119 rfl (by decide) ?_
      show Ex _ _ _ _ _ _ [_, _, _, _, _, _, _, _, _, _, _] _ _ _
      refine ex_iload (pc := 121) dX7_stand_121 rfl ?_
      refine ex_iload (pc := 123) dX7_stand_123 rfl ?_
      refine ex_icmp_le (pc := 125) (tgt := 133) dX7_stand_125 (by decide) (fun c_125 => ?_) (fun c_125 => ?_)
      · skip
        refine ex_iload (pc := 133) dX7_stand_133 rfl ?_
        refine sx_istore (pc := 135) dX7_stand_135 rfl (by decide) ?_
        show Ex _ _ _ _ _ _ [_, _, _, _, _, _, _, _, _, _, _] _ _ _
        refine ex_iload (pc := 137) dX7_stand_137 rfl ?_
        refine ex_iload (pc := 139) dX7_stand_139 rfl ?_
        refine ex_icmp_le (pc := 141) (tgt := 149) dX7_stand_141 (by decide) (fun c_141 => ?_) (fun c_141 => ?_)
        · skip
          refine ex_iload (pc := 149) dX7_stand_149 rfl ?_
          refine sx_istore (pc := 151) dX7_stand_151 rfl (by decide) ?_
          show Ex _ _ _ _ _ _ [_, _, _, _, _, _, _, _, _, _, _] _ _ _
          first | refine sx_inc (pc := 153) dX7_stand_153 rfl rfl (by decide) ?_ | refine sx_iinc (pc := 153) dX7_stand_153 rfl rfl (by decide) ?_
          show Ex _ _ _ _ _ _ [_, _, _, _, _, _, _, _, _, _, _] _ _ _
          refine ex_goto (pc := 156) (tgt := 79) dX7_stand_156 (by decide) ?_
          have z := ih (c + 1) (some (.int (nI (gnS s n nt kd (nI σ) c)))) (by omega)
          rw [stF_le gnS_le (bT c_92) c_125] at z
          exact z
        · skip
          refine ex_iload (pc := 144) dX7_stand_144 rfl ?_
          refine ex_goto (pc := 146) (tgt := 151) dX7_stand_146 (by decide) ?_
          refine sx_istore (pc := 151) dX7_stand_151 rfl (by decide) ?_
          show Ex _ _ _ _ _ _ [_, _, _, _, _, _, _, _, _, _, _] _ _ _
          first | refine sx_inc (pc := 153) dX7_stand_153 rfl rfl (by decide) ?_ | refine sx_iinc (pc := 153) dX7_stand_153 rfl rfl (by decide) ?_
          show Ex _ _ _ _ _ _ [_, _, _, _, _, _, _, _, _, _, _] _ _ _
          refine ex_goto (pc := 156) (tgt := 79) dX7_stand_156 (by decide) ?_
          exact absurd c_125 c_141
      · skip
        refine ex_iload (pc := 128) dX7_stand_128 rfl ?_
        refine ex_goto (pc := 130) (tgt := 135) dX7_stand_130 (by decide) ?_
        refine sx_istore (pc := 135) dX7_stand_135 rfl (by decide) ?_
        show Ex _ _ _ _ _ _ [_, _, _, _, _, _, _, _, _, _, _] _ _ _
        refine ex_iload (pc := 137) dX7_stand_137 rfl ?_
        refine ex_iload (pc := 139) dX7_stand_139 rfl ?_
        refine ex_icmp_le (pc := 141) (tgt := 149) dX7_stand_141 (by decide) (fun c_141 => ?_) (fun c_141 => ?_)
        · skip
          refine ex_iload (pc := 149) dX7_stand_149 rfl ?_
          refine sx_istore (pc := 151) dX7_stand_151 rfl (by decide) ?_
          show Ex _ _ _ _ _ _ [_, _, _, _, _, _, _, _, _, _, _] _ _ _
          first | refine sx_inc (pc := 153) dX7_stand_153 rfl rfl (by decide) ?_ | refine sx_iinc (pc := 153) dX7_stand_153 rfl rfl (by decide) ?_
          show Ex _ _ _ _ _ _ [_, _, _, _, _, _, _, _, _, _, _] _ _ _
          refine ex_goto (pc := 156) (tgt := 79) dX7_stand_156 (by decide) ?_
          exact absurd c_141 c_125
        · skip
          refine ex_iload (pc := 144) dX7_stand_144 rfl ?_
          refine ex_goto (pc := 146) (tgt := 151) dX7_stand_146 (by decide) ?_
          refine sx_istore (pc := 151) dX7_stand_151 rfl (by decide) ?_
          show Ex _ _ _ _ _ _ [_, _, _, _, _, _, _, _, _, _, _] _ _ _
          first | refine sx_inc (pc := 153) dX7_stand_153 rfl rfl (by decide) ?_ | refine sx_iinc (pc := 153) dX7_stand_153 rfl rfl (by decide) ?_
          show Ex _ _ _ _ _ _ [_, _, _, _, _, _, _, _, _, _, _] _ _ _
          refine ex_goto (pc := 156) (tgt := 79) dX7_stand_156 (by decide) ?_
          have z := ih (c + 1) (some (.int (nI (gnS s n nt kd (nI σ) c)))) (by omega)
          rw [stF_gt gnS_le (bT c_92) c_125] at z
          exact z
set_option maxHeartbeats 4000000 in
set_option maxRecDepth 100000 in
theorem c_M_stand {g : Gl} {d ks : Nat} {h : AH} {z s : Nat → Int32} {n nt : Nat} (hR : MR g h z s n nt) (hd : 8 ≤ d) (kd si w : Int32) : Ex g mX7_stand d 0 ks 0 [some (.ref (g.1 + 75)), some (.int kd), some (.int si), some (.int w), none, none, none, none, none, none, none] [] h (qi (fun h' r => Sq g h h' ∧ r = (aStand s n nt kd si w))) := by
  have hM := hR.1
  have hP := hR.2.1
  have hn8 := hP.2.1
  have hN := hP.1
  refine ex_iload_n (pc := 0) dX7_stand_0 rfl ?_
  refine ex_i2l (pc := 1) dX7_stand_1 ?_
  refine ex_lconst (pc := 2) (v := 0) dX7_stand_2 (by decide) ?_
  refine ex_ldc2_w (pc := 3) dX7_stand_3 cn_X7_154 ?_
  refine cx_SL3i (pc := 6) dX7_stand_6 lk_X7_69 rfl (Nat.le_of_ble_eq_true rfl) (Nat.le_of_ble_eq_true rfl) (by omega) (c_M_in _ (m := 6) (by decide)) (fun h_6 x_6 q_6 => ?_)
  obtain ⟨e_6, f_6⟩ := q_6
  rw [e_6, f_6]
  refine ex_if_eq (pc := 9) (tgt := 34) dX7_stand_9 (by decide) (fun c_9 => ?_) (fun c_9 => ?_)
  · skip
    have b_9 := bF c_9
    refine ex_ldc (pc := 34) dX7_stand_34 cn_X7_161 ?_
    refine ex_ret dX7_stand_36 rfl ?_
    refine qi_mk ⟨Sq.rf, ?_⟩
    simp [aStand, b_9]
  · skip
    have b_9 := bT c_9
    refine ex_iload_n (pc := 12) dX7_stand_12 rfl ?_
    refine ex_i2l (pc := 13) dX7_stand_13 ?_
    refine ex_lconst (pc := 14) (v := 0) dX7_stand_14 (by decide) ?_
    refine ex_ldc2_w (pc := 15) dX7_stand_15 cn_X7_159 ?_
    refine cx_SL3i (pc := 18) dX7_stand_18 lk_X7_69 rfl (Nat.le_of_ble_eq_true rfl) (Nat.le_of_ble_eq_true rfl) (by omega) (c_M_in _ (m := 4) (by decide)) (fun h_18 x_18 q_18 => ?_)
    obtain ⟨e_18, f_18⟩ := q_18
    rw [e_18, f_18]
    refine ex_if_eq (pc := 21) (tgt := 34) dX7_stand_21 (by decide) (fun c_21 => ?_) (fun c_21 => ?_)
    · skip
      have b_21 := bF c_21
      refine ex_ldc (pc := 34) dX7_stand_34 cn_X7_161 ?_
      refine ex_ret dX7_stand_36 rfl ?_
      refine qi_mk ⟨Sq.rf, ?_⟩
      simp [aStand, b_9, b_21]
    · skip
      have b_21 := bT c_21
      refine ex_iload_n (pc := 24) dX7_stand_24 rfl ?_
      refine ex_i2l (pc := 25) dX7_stand_25 ?_
      refine ex_lconst (pc := 26) (v := 0) dX7_stand_26 (by decide) ?_
      refine ex_lconst (pc := 27) (v := 1) dX7_stand_27 (by decide) ?_
      refine cx_SL3i (pc := 28) dX7_stand_28 lk_X7_69 rfl (Nat.le_of_ble_eq_true rfl) (Nat.le_of_ble_eq_true rfl) (by omega) (c_M_in _ (m := 2) (by decide)) (fun h_28 x_28 q_28 => ?_)
      obtain ⟨e_28, f_28⟩ := q_28
      rw [e_28, f_28]
      refine ex_if_ne (pc := 31) (tgt := 37) dX7_stand_31 (by decide) (fun c_31 => ?_) (fun c_31 => ?_)
      · skip
        have b_31 := bT c_31
        obtain ⟨σ, hσ, rfl⟩ := bw_ex b_21
        refine ex_aload_n (pc := 37) dX7_stand_37 rfl ?_
        refine ex_get (pc := 38) dX7_stand_38 fl_X7_7 hM.1 rfl ?_
        refine ex_iconst (pc := 41) (v := (nI 0)) dX7_stand_41 (by decide) ?_
        refine ex_ildn (k := 0) (pc := 42) dX7_stand_42 hM.2 rfl (by decide) (by decide) ?_
        rw [hN]
        refine ex_bipush (pc := 43) (v := (nI 8)) dX7_stand_43 (by decide) ?_
        refine ex_icmp_ne (pc := 45) (tgt := 51) dX7_stand_45 (by decide) (fun c_45 => ?_) (fun c_45 => ?_)
        · skip
          have h_37 : n < 8 := by
            have q : ¬ n = 8 := fun z => c_45 (by rw [z])
            omega
          refine ex_aload_n (pc := 51) dX7_stand_51 rfl ?_
          refine ex_aload_n (pc := 52) dX7_stand_52 rfl ?_
          refine cx_VL0i (pc := 53) dX7_stand_53 lk_X7_139 hM.1 rfl (Nat.le_of_ble_eq_true rfl) (Nat.le_of_ble_eq_true rfl) (by omega) (c_M_everybody hR) (fun h_53 x_53 q_53 => ?_)
          obtain ⟨e_53, f_53⟩ := q_53
          rw [e_53, f_53]
          refine cx_VL1l (pc := 56) dX7_stand_56 lk_X7_143 hM.1 rfl (Nat.le_of_ble_eq_true rfl) (Nat.le_of_ble_eq_true rfl) (by omega) (c_M_seenByAll hR (by omega) _) (fun h_56 x_56 q_56 => ?_)
          obtain ⟨hs_56, f_56⟩ := q_56
          rw [f_56, all_wtc hn8]
          refine sx_lstore (pc := 59) dX7_stand_59 rfl (by decide) ?_
          show Ex _ _ _ _ _ _ [_, _, _, _, _, _, _, _, _, _, _] _ _ _
          refine ex_aload_n (pc := 61) dX7_stand_61 rfl ?_
          refine ex_iload_n (pc := 62) dX7_stand_62 rfl ?_
          refine ex_iload_n (pc := 63) dX7_stand_63 rfl ?_
          refine ex_iconst (pc := 64) (v := (nI 0)) dX7_stand_64 (by decide) ?_
          refine cx_VL3i (pc := 65) dX7_stand_65 lk_X7_118 (hR.sq hs_56).1.1 rfl (Nat.le_of_ble_eq_true rfl) (Nat.le_of_ble_eq_true rfl) (by omega) (c_M_reaches (hR.sq hs_56) (by omega) _ _ _) (fun h_65 x_65 q_65 => ?_)
          obtain ⟨hs_65, f_65⟩ := q_65
          rw [f_65]
          refine sx_istore (pc := 68) dX7_stand_68 rfl (by decide) ?_
          show Ex _ _ _ _ _ _ [_, _, _, _, _, _, _, _, _, _, _] _ _ _
          refine ex_iconst (pc := 70) (v := (-1)) dX7_stand_70 (by decide) ?_
          refine sx_istore (pc := 71) dX7_stand_71 rfl (by decide) ?_
          show Ex _ _ _ _ _ _ [_, _, _, _, _, _, _, _, _, _, _] _ _ _
          refine ex_iconst (pc := 73) (v := (-1)) dX7_stand_73 (by decide) ?_
          refine sx_istore (pc := 74) dX7_stand_74 rfl (by decide) ?_
          show Ex _ _ _ _ _ _ [_, _, _, _, _, _, _, _, _, _, _] _ _ _
          refine ex_iconst (pc := 76) (v := (nI 0)) dX7_stand_76 (by decide) ?_
          refine sx_istore (pc := 77) dX7_stand_77 rfl (by decide) ?_
          show Ex _ _ _ _ _ _ [_, _, _, _, _, _, _, _, _, _, _] _ _ _
          refine (c_M_stand_l ((hR.sq hs_56).sq hs_65) (by omega) hσ 48 0 _ (by omega)).mono (fun h' r a => ?_)
          obtain ⟨x, e, a1, a2⟩ := a
          rw [a1]
          exact ⟨x, e, hs_56.tr hs_65, by rw [a2]; simp only [aStand, b_9, b_21, b_31, h_37, Bool.and_self, Bool.and_true, Bool.true_and, Bool.and_false, Bool.false_and, Bool.or_true, Bool.true_or, Bool.or_false, Bool.false_or, Bool.not_true, Bool.not_false, Bool.false_eq_true, ↓reduceIte]⟩
        · skip
          have h_37 : ¬ n < 8 := by
            have q := (nI_eq (by omega) (by omega)).mp c_45
            omega
          refine ex_ldc (pc := 48) dX7_stand_48 cn_X7_166 ?_
          refine ex_ret dX7_stand_50 rfl ?_
          refine qi_mk ⟨Sq.rf, ?_⟩
          simp [aStand, b_9, b_21, b_31, h_37]
      · skip
        have b_31 := bF c_31
        refine ex_ldc (pc := 34) dX7_stand_34 cn_X7_161 ?_
        refine ex_ret dX7_stand_36 rfl ?_
        refine qi_mk ⟨Sq.rf, ?_⟩
        simp [aStand, b_9, b_21, b_31]

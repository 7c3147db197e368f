/-! the class's reader: places of the tape -/
def RdT (g : Gl) (h : AH) (r tf : Nat → Int32) (tl : Nat) : Prop := h[40]? = some (rdC g r) ∧ h[41]? = some (ia g 96 tf) ∧ r 1 = nI tl ∧ tl ≤ 96
def rdW (k : Nat) : Prop := k = 40 ∨ k = 42 ∨ k = 43
def c40 (k : Nat) : Prop := k = 40
theorem RdT.s {g : Gl} {h : AH} {r tf : Nat → Int32} {tl : Nat} (a : RdT g h r tf tl) {r' : Nat → Int32} (e : r' 1 = r 1) : RdT g (h.set 40 (rdC g r')) r' tf tl := ⟨gs_eq a.1, gs_ne (by decide) a.2.1, e.trans a.2.2.1, a.2.2.2⟩
def rK (r r' : Nat → Int32) : Prop := ∀ k, ¬ k = 11 → ¬ k = 12 → r' k = r k
theorem rK.rf {r : Nat → Int32} : rK r r := fun _ _ _ => rfl
theorem rK.u1 {r r' : Nat → Int32} (a : rK r r') {v : Int32} : rK r (upd r' 11 v) := fun k h1 h2 => (upd_ne h1).trans (a k h1 h2)
theorem rK.u2 {r r' : Nat → Int32} (a : rK r r') {v : Int32} : rK r (upd r' 12 v) := fun k h1 h2 => (upd_ne h2).trans (a k h1 h2)
theorem bw_f {k n : Nat} (h : bw (nI k) n = false) (hk : k < 2147483648 := by omega) (hn : n < 2147483648 := by omega) : n ≤ k := Nat.not_lt.mp (fun q => by rw [bw_t q hn] at h; cases h)
theorem bw_l {k n : Nat} (h : bw (nI k) n = true) (hk : k < 2147483648 := by omega) (hn : n < 2147483648 := by omega) : k < n := by
  obtain ⟨j, h1, h2⟩ := bw_ex h hn
  rw [(nI_eq hk (by omega)).mp h2]
  exact h1
set_option maxHeartbeats 4000000 in
set_option maxRecDepth 100000 in
theorem c_R_sortAt {g : Gl} {d ks : Nat} {h : AH} {r tf : Nat → Int32} {tb : Nat → Nat} {tl : Nat} (hT : RdT g h r tf tl) (hB : TpOk tf tb) {i : Nat} (hi : i ≤ 96) (hd : 1 ≤ d) : Ex g mX1_sortAt d 0 ks 0 [some (.ref (g.1 + 40)), some (.int (nI i)), none] [] h (qi (fun h' x => h' = h ∧ x = nI (srt tb tl i))) := by
  have htl := hT.2.2.2
  refine ex_iload_n (pc := 0) dX1_sortAt_0 rfl ?_
  refine ex_aload_n (pc := 1) dX1_sortAt_1 rfl ?_
  refine ex_get (pc := 2) dX1_sortAt_2 fl_X1_15 hT.1 rfl ?_
  rw [hT.2.2.1]
  refine cx_SN2i (pc := 5) dX1_sortAt_5 lk_X1_89 rfl (Nat.le_of_ble_eq_true rfl) (Nat.le_of_ble_eq_true rfl) (by omega) (c_ib _ _) (fun h_5 x_5 q_5 => ?_)
  obtain ⟨e_5, f_5⟩ := q_5
  rw [e_5, f_5]
  refine ex_if_eq (pc := 8) (tgt := 20) dX1_sortAt_8 (by decide) (fun c_8 => ?_) (fun c_8 => ?_)
  · skip
    have b_8 := bF c_8
    refine ex_bipush (pc := 20) (v := (nI 32)) dX1_sortAt_20 (by decide) ?_
    refine sx_istore_n (pc := 22) dX1_sortAt_22 rfl (by decide) ?_
    show Ex _ _ _ _ _ _ [_, _, _] _ _ _
    refine ex_iload_n (pc := 23) dX1_sortAt_23 rfl ?_
    refine ex_bipush (pc := 24) (v := (nI 97)) dX1_sortAt_24 (by decide) ?_
    refine bx_icmp_lt_t (pc := 26) (tgt := 39) dX1_sortAt_26 (by decide) (by decide) ?_
    refine ex_iload_n (pc := 39) dX1_sortAt_39 rfl ?_
    refine ex_bipush (pc := 40) (v := (nI 48)) dX1_sortAt_40 (by decide) ?_
    refine bx_icmp_lt_t (pc := 42) (tgt := 55) dX1_sortAt_42 (by decide) (by decide) ?_
    refine ex_iconst (pc := 55) (v := 0) dX1_sortAt_55 (by decide) ?_
    refine ex_ret dX1_sortAt_56 rfl ?_
    refine qi_mk ⟨rfl, ?_⟩
    rw [srt_hi (bw_f b_8)]
    all_goals rfl
  · skip
    have b_8 := bT c_8
    refine ex_aload_n (pc := 11) dX1_sortAt_11 rfl ?_
    refine ex_get (pc := 12) dX1_sortAt_12 fl_X1_9 hT.1 rfl ?_
    refine ex_iload_n (pc := 15) dX1_sortAt_15 rfl ?_
    refine ex_ildn (k := i) (pc := 16) dX1_sortAt_16 hT.2.1 rfl (by have := bw_l b_8; omega) (by decide) ?_
    rw [(hB i).1]
    refine ex_goto (pc := 17) (tgt := 22) dX1_sortAt_17 (by decide) ?_
    refine sx_istore_n (pc := 22) dX1_sortAt_22 rfl (by decide) ?_
    show Ex _ _ _ _ _ _ [_, _, _] _ _ _
    refine ex_iload_n (pc := 23) dX1_sortAt_23 rfl ?_
    refine ex_bipush (pc := 24) (v := (nI 97)) dX1_sortAt_24 (by decide) ?_
    refine ex_icmp_lt (pc := 26) (tgt := 39) dX1_sortAt_26 (by decide) (fun c_26 => ?_) (fun c_26 => ?_)
    · skip
      refine ex_iload_n (pc := 39) dX1_sortAt_39 rfl ?_
      refine ex_bipush (pc := 40) (v := (nI 48)) dX1_sortAt_40 (by decide) ?_
      refine ex_icmp_lt (pc := 42) (tgt := 55) dX1_sortAt_42 (by decide) (fun c_42 => ?_) (fun c_42 => ?_)
      · skip
        refine ex_iconst (pc := 55) (v := 0) dX1_sortAt_55 (by decide) ?_
        refine ex_ret dX1_sortAt_56 rfl ?_
        refine qi_mk ⟨rfl, ?_⟩
        have hb := (hB i).2
        have hi' := bw_l b_8
        have y1 : tb i < 97 := (nI_ltI (by omega) (by omega)).mp c_26
        have y3 : tb i < 48 := (nI_ltI (by omega) (by omega)).mp c_42
        have e : srt tb tl i = 0 := by unfold srt; rw [if_pos hi']; (repeat' split) <;> omega
        rw [e]
        all_goals rfl
      · skip
        refine ex_iload_n (pc := 45) dX1_sortAt_45 rfl ?_
        refine ex_bipush (pc := 46) (v := (nI 57)) dX1_sortAt_46 (by decide) ?_
        refine ex_icmp_gt (pc := 48) (tgt := 55) dX1_sortAt_48 (by decide) (fun c_48 => ?_) (fun c_48 => ?_)
        · skip
          refine ex_iconst (pc := 55) (v := 0) dX1_sortAt_55 (by decide) ?_
          refine ex_ret dX1_sortAt_56 rfl ?_
          refine qi_mk ⟨rfl, ?_⟩
          have hb := (hB i).2
          have hi' := bw_l b_8
          have y1 : tb i < 97 := (nI_ltI (by omega) (by omega)).mp c_26
          have y3 : 48 ≤ tb i := Nat.not_lt.mp (fun q => c_42 (nI_lt q (by omega)))
          have y4 : 57 < tb i := (nI_ltI (by omega) (by omega)).mp c_48
          have e : srt tb tl i = 0 := by unfold srt; rw [if_pos hi']; (repeat' split) <;> omega
          rw [e]
          all_goals rfl
        · skip
          refine ex_iconst (pc := 51) (v := (nI 2)) dX1_sortAt_51 (by decide) ?_
          refine ex_goto (pc := 52) (tgt := 56) dX1_sortAt_52 (by decide) ?_
          refine ex_ret dX1_sortAt_56 rfl ?_
          refine qi_mk ⟨rfl, ?_⟩
          have hb := (hB i).2
          have hi' := bw_l b_8
          have y1 : tb i < 97 := (nI_ltI (by omega) (by omega)).mp c_26
          have y3 : 48 ≤ tb i := Nat.not_lt.mp (fun q => c_42 (nI_lt q (by omega)))
          have y4 : tb i ≤ 57 := Nat.not_lt.mp (fun q => c_48 (nI_lt q (by omega)))
          have e : srt tb tl i = 2 := by unfold srt; rw [if_pos hi']; (repeat' split) <;> omega
          rw [e]
          all_goals rfl
    · skip
      refine ex_iload_n (pc := 29) dX1_sortAt_29 rfl ?_
      refine ex_bipush (pc := 30) (v := (nI 122)) dX1_sortAt_30 (by decide) ?_
      refine ex_icmp_gt (pc := 32) (tgt := 39) dX1_sortAt_32 (by decide) (fun c_32 => ?_) (fun c_32 => ?_)
      · skip
        refine ex_iload_n (pc := 39) dX1_sortAt_39 rfl ?_
        refine ex_bipush (pc := 40) (v := (nI 48)) dX1_sortAt_40 (by decide) ?_
        refine ex_icmp_lt (pc := 42) (tgt := 55) dX1_sortAt_42 (by decide) (fun c_42 => ?_) (fun c_42 => ?_)
        · skip
          refine ex_iconst (pc := 55) (v := 0) dX1_sortAt_55 (by decide) ?_
          refine ex_ret dX1_sortAt_56 rfl ?_
          refine qi_mk ⟨rfl, ?_⟩
          have hb := (hB i).2
          have hi' := bw_l b_8
          have y1 : 97 ≤ tb i := Nat.not_lt.mp (fun q => c_26 (nI_lt q (by omega)))
          have y2 : 122 < tb i := (nI_ltI (by omega) (by omega)).mp c_32
          have y3 : tb i < 48 := (nI_ltI (by omega) (by omega)).mp c_42
          have e : srt tb tl i = 0 := by unfold srt; rw [if_pos hi']; (repeat' split) <;> omega
          rw [e]
          all_goals rfl
        · skip
          refine ex_iload_n (pc := 45) dX1_sortAt_45 rfl ?_
          refine ex_bipush (pc := 46) (v := (nI 57)) dX1_sortAt_46 (by decide) ?_
          refine ex_icmp_gt (pc := 48) (tgt := 55) dX1_sortAt_48 (by decide) (fun c_48 => ?_) (fun c_48 => ?_)
          · skip
            refine ex_iconst (pc := 55) (v := 0) dX1_sortAt_55 (by decide) ?_
            refine ex_ret dX1_sortAt_56 rfl ?_
            refine qi_mk ⟨rfl, ?_⟩
            have hb := (hB i).2
            have hi' := bw_l b_8
            have y1 : 97 ≤ tb i := Nat.not_lt.mp (fun q => c_26 (nI_lt q (by omega)))
            have y2 : 122 < tb i := (nI_ltI (by omega) (by omega)).mp c_32
            have y3 : 48 ≤ tb i := Nat.not_lt.mp (fun q => c_42 (nI_lt q (by omega)))
            have y4 : 57 < tb i := (nI_ltI (by omega) (by omega)).mp c_48
            have e : srt tb tl i = 0 := by unfold srt; rw [if_pos hi']; (repeat' split) <;> omega
            rw [e]
            all_goals rfl
          · skip
            refine ex_iconst (pc := 51) (v := (nI 2)) dX1_sortAt_51 (by decide) ?_
            refine ex_goto (pc := 52) (tgt := 56) dX1_sortAt_52 (by decide) ?_
            refine ex_ret dX1_sortAt_56 rfl ?_
            refine qi_mk ⟨rfl, ?_⟩
            have hb := (hB i).2
            have hi' := bw_l b_8
            have y1 : 97 ≤ tb i := Nat.not_lt.mp (fun q => c_26 (nI_lt q (by omega)))
            have y2 : 122 < tb i := (nI_ltI (by omega) (by omega)).mp c_32
            have y3 : 48 ≤ tb i := Nat.not_lt.mp (fun q => c_42 (nI_lt q (by omega)))
            have y4 : tb i ≤ 57 := Nat.not_lt.mp (fun q => c_48 (nI_lt q (by omega)))
            have e : srt tb tl i = 2 := by unfold srt; rw [if_pos hi']; (repeat' split) <;> omega
            rw [e]
            all_goals rfl
      · skip
        refine ex_iconst (pc := 35) (v := 1) dX1_sortAt_35 (by decide) ?_
        refine ex_goto (pc := 36) (tgt := 56) dX1_sortAt_36 (by decide) ?_
        refine ex_ret dX1_sortAt_56 rfl ?_
        refine qi_mk ⟨rfl, ?_⟩
        have hb := (hB i).2
        have hi' := bw_l b_8
        have y1 : 97 ≤ tb i := Nat.not_lt.mp (fun q => c_26 (nI_lt q (by omega)))
        have y2 : tb i ≤ 122 := Nat.not_lt.mp (fun q => c_32 (nI_lt q (by omega)))
        have e : srt tb tl i = 1 := by unfold srt; rw [if_pos hi']; (repeat' split) <;> omega
        rw [e]
        all_goals rfl
set_option maxHeartbeats 4000000 in
set_option maxRecDepth 100000 in
theorem c_R_go_r {g : Gl} {d ks : Nat} {h : AH} {r tf : Nat → Int32} {tb : Nat → Nat} {tl b : Nat} (hB : TpOk tf tb) (htl : tl ≤ 96) (hb : b < tl) (hs0 : ¬ srt tb tl b = 0) (hd : 2 ≤ d) : ∀ (m q : Nat) (h1 : AH) (r1 : Nat → Int32), RdT g h1 r1 tf tl → rK r r1 → r1 11 = nI b → r1 12 = nI q → FrX c40 g h h1 → b < q → rnE tb tl (srt tb tl b) (tl - q) q = enT tb tl b → q + m = tl → Ex g mX1_goOn d 0 ks 78 [some (.ref (g.1 + 40)), some (.int (nI (srt tb tl b)))] [] h1 (qi (fun h' x => ∃ r', RdT g h' r' tf tl ∧ rK r r' ∧ r' 11 = nI b ∧ (b < tl → r' 12 = nI (enT tb tl b)) ∧ FrX c40 g h h' ∧ x = bI (b < tl))) := by
  intro m
  induction m with
  | zero =>
    intro q h1 r1 hT hk h11 h12 hF hbq hq hm
    have hs : ¬ srt tb tl q = srt tb tl b := by rw [srt_hi (by omega)]; exact fun z => hs0 z.symm
    rw [rn_hi hs0 _ hs] at hq
    refine ex_iload_n (pc := 78) dX1_goOn_78 rfl ?_
    refine bx_if_eq_f (pc := 79) (tgt := 118) dX1_goOn_79 (by decide) (fun q => hs0 ((nI_eq (by have := srt_3 tb tl b; omega) (by omega)).mp q)) ?_
    refine ex_aload_n (pc := 82) dX1_goOn_82 rfl ?_
    refine ex_get (pc := 83) dX1_goOn_83 fl_X1_50 hT.1 rfl ?_
    refine ex_aload_n (pc := 86) dX1_goOn_86 rfl ?_
    refine ex_get (pc := 87) dX1_goOn_87 fl_X1_15 hT.1 rfl ?_
    refine bx_icmp_ge_t (pc := 90) (tgt := 118) dX1_goOn_90 (by decide) (by rw [h12, hT.2.2.1]; exact nI_le (by omega) (by omega)) ?_
    refine ex_iconst (pc := 118) (v := 1) dX1_goOn_118 (by decide) ?_
    refine ex_zret dX1_goOn_119 rfl (by first | exact Or.inl rfl | exact Or.inr rfl | exact bI_01 _) ?_
    exact qi_mk ⟨r1, hT, hk, h11, fun _ => by rw [h12, hq], hF, (bI_t hb).symm⟩
  | succ m ih =>
    intro q h1 r1 hT hk h11 h12 hF hbq hq hm
    by_cases hs : srt tb tl q = srt tb tl b
    · skip
      refine ex_iload_n (pc := 78) dX1_goOn_78 rfl ?_
      refine bx_if_eq_f (pc := 79) (tgt := 118) dX1_goOn_79 (by decide) (fun q => hs0 ((nI_eq (by have := srt_3 tb tl b; omega) (by omega)).mp q)) ?_
      refine ex_aload_n (pc := 82) dX1_goOn_82 rfl ?_
      refine ex_get (pc := 83) dX1_goOn_83 fl_X1_50 hT.1 rfl ?_
      refine ex_aload_n (pc := 86) dX1_goOn_86 rfl ?_
      refine ex_get (pc := 87) dX1_goOn_87 fl_X1_15 hT.1 rfl ?_
      refine bx_icmp_ge_f (pc := 90) (tgt := 118) dX1_goOn_90 (by decide) (by rw [h12, hT.2.2.1]; exact nI_ge (by omega) (by omega)) ?_
      refine ex_aload_n (pc := 93) dX1_goOn_93 rfl ?_
      refine ex_aload_n (pc := 94) dX1_goOn_94 rfl ?_
      refine ex_get (pc := 95) dX1_goOn_95 fl_X1_50 hT.1 rfl ?_
      rw [h12]
      refine cx_VL1i (pc := 98) dX1_goOn_98 lk_X1_85 hT.1 rfl (Nat.le_of_ble_eq_true rfl) (Nat.le_of_ble_eq_true rfl) (by omega) (c_R_sortAt hT hB (i := q) (by omega) (by omega)) (fun h_98 x_98 q_98 => ?_)
      obtain ⟨e_98, f_98⟩ := q_98
      rw [e_98, f_98]
      refine ex_iload_n (pc := 101) dX1_goOn_101 rfl ?_
      refine bx_icmp_ne_f (pc := 102) (tgt := 118) dX1_goOn_102 (by decide) (by rw [hs]) ?_
      refine ex_aload_n (pc := 105) dX1_goOn_105 rfl ?_
      refine ex_dup (pc := 106) dX1_goOn_106 rfl ?_
      refine ex_get (pc := 107) dX1_goOn_107 fl_X1_50 hT.1 rfl ?_
      rw [h12]
      refine ex_iconst (pc := 110) (v := (nI 1)) dX1_goOn_110 (by decide) ?_
      refine ex_iadd (pc := 111) dX1_goOn_111 ?_
      refine ex_put (pc := 112) dX1_goOn_112 fp_X1_50 hT.1 (Nat.le_of_ble_eq_true rfl) rfl rfl ?_
      rw [rd_12, nI_add]
      refine ex_goto (pc := 115) (tgt := 78) dX1_goOn_115 (by decide) ?_
      exact ih (q + 1) _ _ (hT.s (upd_ne (by decide))) hk.u2 ((upd_ne (by decide)).trans h11) upd_eq (hF.tr (FrX.st rfl (nscr (by omega)))) (by omega) (by rw [← hq, show tl - q = (tl - (q + 1)) + 1 by omega, rnE, if_pos hs]) (by omega)
    · rw [rn_hi hs0 _ hs] at hq
      refine ex_iload_n (pc := 78) dX1_goOn_78 rfl ?_
      refine bx_if_eq_f (pc := 79) (tgt := 118) dX1_goOn_79 (by decide) (fun q => hs0 ((nI_eq (by have := srt_3 tb tl b; omega) (by omega)).mp q)) ?_
      refine ex_aload_n (pc := 82) dX1_goOn_82 rfl ?_
      refine ex_get (pc := 83) dX1_goOn_83 fl_X1_50 hT.1 rfl ?_
      refine ex_aload_n (pc := 86) dX1_goOn_86 rfl ?_
      refine ex_get (pc := 87) dX1_goOn_87 fl_X1_15 hT.1 rfl ?_
      refine bx_icmp_ge_f (pc := 90) (tgt := 118) dX1_goOn_90 (by decide) (by rw [h12, hT.2.2.1]; exact nI_ge (by omega) (by omega)) ?_
      refine ex_aload_n (pc := 93) dX1_goOn_93 rfl ?_
      refine ex_aload_n (pc := 94) dX1_goOn_94 rfl ?_
      refine ex_get (pc := 95) dX1_goOn_95 fl_X1_50 hT.1 rfl ?_
      rw [h12]
      refine cx_VL1i (pc := 98) dX1_goOn_98 lk_X1_85 hT.1 rfl (Nat.le_of_ble_eq_true rfl) (Nat.le_of_ble_eq_true rfl) (by omega) (c_R_sortAt hT hB (i := q) (by omega) (by omega)) (fun h_98 x_98 q_98 => ?_)
      obtain ⟨e_98, f_98⟩ := q_98
      rw [e_98, f_98]
      refine ex_iload_n (pc := 101) dX1_goOn_101 rfl ?_
      refine bx_icmp_ne_t (pc := 102) (tgt := 118) dX1_goOn_102 (by decide) (fun y => hs ((nI_eq (by have := srt_3 tb tl q; omega) (by have := srt_3 tb tl b; omega)).mp y)) ?_
      refine ex_iconst (pc := 118) (v := 1) dX1_goOn_118 (by decide) ?_
      refine ex_zret dX1_goOn_119 rfl (by first | exact Or.inl rfl | exact Or.inr rfl | exact bI_01 _) ?_
      exact qi_mk ⟨r1, hT, hk, h11, fun _ => by rw [h12, hq], hF, (bI_t hb).symm⟩
set_option maxHeartbeats 4000000 in
set_option maxRecDepth 100000 in
theorem c_R_go_b {g : Gl} {d ks : Nat} {h : AH} {r tf : Nat → Int32} {tb : Nat → Nat} {tl b : Nat} (hB : TpOk tf tb) (htl : tl ≤ 96) (hd : 2 ≤ d) {h1 : AH} {r1 : Nat → Int32} (hT : RdT g h1 r1 tf tl) (hk : rK r r1) (h11 : r1 11 = nI b) (hF : FrX c40 g h h1) (hbt : b ≤ tl) (l1 : Option Value) : Ex g mX1_goOn d 0 ks 46 [some (.ref (g.1 + 40)), l1] [] h1 (qi (fun h' x => ∃ r', RdT g h' r' tf tl ∧ rK r r' ∧ r' 11 = nI b ∧ (b < tl → r' 12 = nI (enT tb tl b)) ∧ FrX c40 g h h' ∧ x = bI (b < tl))) := by
  by_cases hb : b < tl
  · by_cases hs0 : srt tb tl b = 0
    · skip
      refine ex_aload_n (pc := 46) dX1_goOn_46 rfl ?_
      refine ex_get (pc := 47) dX1_goOn_47 fl_X1_47 hT.1 rfl ?_
      refine ex_aload_n (pc := 50) dX1_goOn_50 rfl ?_
      refine ex_get (pc := 51) dX1_goOn_51 fl_X1_15 hT.1 rfl ?_
      refine bx_icmp_lt_t (pc := 54) (tgt := 59) dX1_goOn_54 (by decide) (by rw [h11, hT.2.2.1]; exact nI_lt hb (by omega)) ?_
      refine ex_aload_n (pc := 59) dX1_goOn_59 rfl ?_
      refine ex_aload_n (pc := 60) dX1_goOn_60 rfl ?_
      refine ex_get (pc := 61) dX1_goOn_61 fl_X1_47 hT.1 rfl ?_
      rw [h11]
      refine cx_VL1i (pc := 64) dX1_goOn_64 lk_X1_85 hT.1 rfl (Nat.le_of_ble_eq_true rfl) (Nat.le_of_ble_eq_true rfl) (by omega) (c_R_sortAt hT hB (i := b) (by omega) (by omega)) (fun h_64 x_64 q_64 => ?_)
      obtain ⟨e_64, f_64⟩ := q_64
      rw [e_64, f_64]
      refine sx_istore_n (pc := 67) dX1_goOn_67 rfl (by decide) ?_
      show Ex _ _ _ _ _ _ [_, _] _ _ _
      refine ex_aload_n (pc := 68) dX1_goOn_68 rfl ?_
      refine ex_aload_n (pc := 69) dX1_goOn_69 rfl ?_
      refine ex_get (pc := 70) dX1_goOn_70 fl_X1_47 hT.1 rfl ?_
      rw [h11]
      refine ex_iconst (pc := 73) (v := (nI 1)) dX1_goOn_73 (by decide) ?_
      refine ex_iadd (pc := 74) dX1_goOn_74 ?_
      rw [nI_add]
      refine ex_put (pc := 75) dX1_goOn_75 fp_X1_50 hT.1 (Nat.le_of_ble_eq_true rfl) rfl rfl ?_
      rw [rd_12]
      have hT2 := hT.s (r' := upd r1 12 (nI (b + 1))) (upd_ne (by decide))
      have hk2 : rK r (upd r1 12 (nI (b + 1))) := hk.u2
      have h112 : upd r1 12 (nI (b + 1)) 11 = nI b := (upd_ne (by decide)).trans h11
      have h122 : upd r1 12 (nI (b + 1)) 12 = nI (b + 1) := upd_eq
      refine ex_iload_n (pc := 78) dX1_goOn_78 rfl ?_
      refine bx_if_eq_t (pc := 79) (tgt := 118) dX1_goOn_79 (by decide) (by rw [hs0]; rfl) ?_
      refine ex_iconst (pc := 118) (v := 1) dX1_goOn_118 (by decide) ?_
      refine ex_zret dX1_goOn_119 rfl (by first | exact Or.inl rfl | exact Or.inr rfl | exact bI_01 _) ?_
      exact qi_mk ⟨_, hT2, hk2, h112, fun _ => by rw [h122]; unfold enT; rw [if_pos hs0], (hF.tr (FrX.st rfl (nscr (by omega)))), (bI_t hb).symm⟩
    · skip
      refine ex_aload_n (pc := 46) dX1_goOn_46 rfl ?_
      refine ex_get (pc := 47) dX1_goOn_47 fl_X1_47 hT.1 rfl ?_
      refine ex_aload_n (pc := 50) dX1_goOn_50 rfl ?_
      refine ex_get (pc := 51) dX1_goOn_51 fl_X1_15 hT.1 rfl ?_
      refine bx_icmp_lt_t (pc := 54) (tgt := 59) dX1_goOn_54 (by decide) (by rw [h11, hT.2.2.1]; exact nI_lt hb (by omega)) ?_
      refine ex_aload_n (pc := 59) dX1_goOn_59 rfl ?_
      refine ex_aload_n (pc := 60) dX1_goOn_60 rfl ?_
      refine ex_get (pc := 61) dX1_goOn_61 fl_X1_47 hT.1 rfl ?_
      rw [h11]
      refine cx_VL1i (pc := 64) dX1_goOn_64 lk_X1_85 hT.1 rfl (Nat.le_of_ble_eq_true rfl) (Nat.le_of_ble_eq_true rfl) (by omega) (c_R_sortAt hT hB (i := b) (by omega) (by omega)) (fun h_64 x_64 q_64 => ?_)
      obtain ⟨e_64, f_64⟩ := q_64
      rw [e_64, f_64]
      refine sx_istore_n (pc := 67) dX1_goOn_67 rfl (by decide) ?_
      show Ex _ _ _ _ _ _ [_, _] _ _ _
      refine ex_aload_n (pc := 68) dX1_goOn_68 rfl ?_
      refine ex_aload_n (pc := 69) dX1_goOn_69 rfl ?_
      refine ex_get (pc := 70) dX1_goOn_70 fl_X1_47 hT.1 rfl ?_
      rw [h11]
      refine ex_iconst (pc := 73) (v := (nI 1)) dX1_goOn_73 (by decide) ?_
      refine ex_iadd (pc := 74) dX1_goOn_74 ?_
      rw [nI_add]
      refine ex_put (pc := 75) dX1_goOn_75 fp_X1_50 hT.1 (Nat.le_of_ble_eq_true rfl) rfl rfl ?_
      rw [rd_12]
      have hT2 := hT.s (r' := upd r1 12 (nI (b + 1))) (upd_ne (by decide))
      have hk2 : rK r (upd r1 12 (nI (b + 1))) := hk.u2
      have h112 : upd r1 12 (nI (b + 1)) 11 = nI b := (upd_ne (by decide)).trans h11
      have h122 : upd r1 12 (nI (b + 1)) 12 = nI (b + 1) := upd_eq
      exact c_R_go_r hB htl hb hs0 hd (tl - (b + 1)) (b + 1) _ _ hT2 hk2 h112 h122 (hF.tr (FrX.st rfl (nscr (by omega)))) (by omega) (by unfold enT; rw [if_neg hs0]) (by omega)
  · skip
    refine ex_aload_n (pc := 46) dX1_goOn_46 rfl ?_
    refine ex_get (pc := 47) dX1_goOn_47 fl_X1_47 hT.1 rfl ?_
    refine ex_aload_n (pc := 50) dX1_goOn_50 rfl ?_
    refine ex_get (pc := 51) dX1_goOn_51 fl_X1_15 hT.1 rfl ?_
    refine bx_icmp_lt_f (pc := 54) (tgt := 59) dX1_goOn_54 (by decide) (by rw [h11, hT.2.2.1]; exact fun q => hb ((nI_ltI (by omega) (by omega)).mp q)) ?_
    refine ex_iconst (pc := 57) (v := 0) dX1_goOn_57 (by decide) ?_
    refine ex_zret dX1_goOn_58 rfl (by first | exact Or.inl rfl | exact Or.inr rfl | exact bI_01 _) ?_
    exact qi_mk ⟨r1, hT, hk, h11, fun q => absurd q hb, hF, (bI_f hb).symm⟩
set_option maxHeartbeats 4000000 in
set_option maxRecDepth 100000 in
theorem c_R_go_a {g : Gl} {d ks : Nat} {h : AH} {r tf : Nat → Int32} {tb : Nat → Nat} {tl p : Nat} (hB : TpOk tf tb) (htl : tl ≤ 96) (hp : p ≤ tl) (hd : 2 ≤ d) : ∀ (m q : Nat) (h1 : AH) (r1 : Nat → Int32), RdT g h1 r1 tf tl → rK r r1 → r1 11 = nI q → FrX c40 g h h1 → skp tb m q = bgT tb tl p → q + m = tl → Ex g mX1_goOn d 0 ks 8 [some (.ref (g.1 + 40)), none] [] h1 (qi (fun h' x => ∃ r', RdT g h' r' tf tl ∧ rK r r' ∧ r' 11 = nI (bgT tb tl p) ∧ (bgT tb tl p < tl → r' 12 = nI (enT tb tl (bgT tb tl p))) ∧ FrX c40 g h h' ∧ x = bI (bgT tb tl p < tl))) := by
  intro m
  induction m with
  | zero =>
    intro q h1 r1 hT hk h11 hF hq hm
    replace hq : q = bgT tb tl p := hq
    refine ex_aload_n (pc := 8) dX1_goOn_8 rfl ?_
    refine ex_get (pc := 9) dX1_goOn_9 fl_X1_47 hT.1 rfl ?_
    refine ex_aload_n (pc := 12) dX1_goOn_12 rfl ?_
    refine ex_get (pc := 13) dX1_goOn_13 fl_X1_15 hT.1 rfl ?_
    refine bx_icmp_ge_t (pc := 16) (tgt := 46) dX1_goOn_16 (by decide) (by rw [h11, hT.2.2.1]; exact nI_le (by omega) (by omega)) ?_
    exact c_R_go_b hB htl hd hT hk (by rw [h11, hq]) hF (bg_rng hp).2 none
  | succ m ih =>
    intro q h1 r1 hT hk h11 hF hq hm
    refine ex_aload_n (pc := 8) dX1_goOn_8 rfl ?_
    refine ex_get (pc := 9) dX1_goOn_9 fl_X1_47 hT.1 rfl ?_
    refine ex_aload_n (pc := 12) dX1_goOn_12 rfl ?_
    refine ex_get (pc := 13) dX1_goOn_13 fl_X1_15 hT.1 rfl ?_
    refine bx_icmp_ge_f (pc := 16) (tgt := 46) dX1_goOn_16 (by decide) (by rw [h11, hT.2.2.1]; exact nI_ge (by omega) (by omega)) ?_
    refine ex_aload_n (pc := 19) dX1_goOn_19 rfl ?_
    refine ex_get (pc := 20) dX1_goOn_20 fl_X1_9 hT.1 rfl ?_
    refine ex_aload_n (pc := 23) dX1_goOn_23 rfl ?_
    refine ex_get (pc := 24) dX1_goOn_24 fl_X1_47 hT.1 rfl ?_
    rw [h11]
    refine ex_ildn (k := q) (pc := 27) dX1_goOn_27 hT.2.1 rfl (by omega) (by decide) ?_
    rw [(hB q).1]
    refine ex_bipush (pc := 28) (v := (nI 32)) dX1_goOn_28 (by decide) ?_
    refine ex_icmp_ne (pc := 30) (tgt := 46) dX1_goOn_30 (by decide) (fun c_30 => ?_) (fun c_30 => ?_)
    · skip
      have k32 : ¬ tb q = 32 := fun z => c_30 (by rw [z])
      rw [skp, if_neg k32] at hq
      exact c_R_go_b hB htl hd hT hk (by rw [h11, hq]) hF (bg_rng hp).2 none
    · skip
      have k32 : tb q = 32 := (nI_eq (by have := (hB q).2; omega) (by omega)).mp c_30
      rw [skp, if_pos k32] at hq
      refine ex_aload_n (pc := 33) dX1_goOn_33 rfl ?_
      refine ex_dup (pc := 34) dX1_goOn_34 rfl ?_
      refine ex_get (pc := 35) dX1_goOn_35 fl_X1_47 hT.1 rfl ?_
      rw [h11]
      refine ex_iconst (pc := 38) (v := (nI 1)) dX1_goOn_38 (by decide) ?_
      refine ex_iadd (pc := 39) dX1_goOn_39 ?_
      rw [nI_add]
      refine ex_put (pc := 40) dX1_goOn_40 fp_X1_47 hT.1 (Nat.le_of_ble_eq_true rfl) rfl rfl ?_
      rw [rd_11]
      refine ex_goto (pc := 43) (tgt := 8) dX1_goOn_43 (by decide) ?_
      exact ih (q + 1) _ _ (hT.s (upd_ne (by decide))) hk.u1 upd_eq (hF.tr (FrX.st rfl (nscr (by omega)))) hq (by omega)
set_option maxHeartbeats 4000000 in
set_option maxRecDepth 100000 in
theorem c_R_goOn {g : Gl} {d ks : Nat} {h : AH} {r tf : Nat → Int32} {tb : Nat → Nat} {tl p : Nat} (hT : RdT g h r tf tl) (hB : TpOk tf tb) (hp : p ≤ tl) (h12 : r 12 = nI p) (hd : 2 ≤ d) : Ex g mX1_goOn d 0 ks 0 [some (.ref (g.1 + 40)), none] [] h (qi (fun h' x => ∃ r', RdT g h' r' tf tl ∧ rK r r' ∧ r' 11 = nI (bgT tb tl p) ∧ (bgT tb tl p < tl → r' 12 = nI (enT tb tl (bgT tb tl p))) ∧ FrX c40 g h h' ∧ x = bI (bgT tb tl p < tl))) := by
  have htl := hT.2.2.2
  refine ex_aload_n (pc := 0) dX1_goOn_0 rfl ?_
  refine ex_aload_n (pc := 1) dX1_goOn_1 rfl ?_
  refine ex_get (pc := 2) dX1_goOn_2 fl_X1_50 hT.1 rfl ?_
  rw [h12]
  refine ex_put (pc := 5) dX1_goOn_5 fp_X1_47 hT.1 (Nat.le_of_ble_eq_true rfl) rfl rfl ?_
  rw [rd_11]
  exact c_R_go_a hB htl hp hd (tl - p) p _ _ (hT.s (upd_ne (by decide))) rK.rf.u1 upd_eq (FrX.st rfl (nscr (by omega))) rfl (by omega)
set_option maxHeartbeats 4000000 in
set_option maxRecDepth 100000 in
theorem c_R_isGlued {g : Gl} {d ks : Nat} {h : AH} {r tf : Nat → Int32} {tb : Nat → Nat} {tl : Nat} (hT : RdT g h r tf tl) (hB : TpOk tf tb) {b : Nat} (hb : b < tl) (h11 : r 11 = nI b) (hs : ¬ srt tb tl b = 0) (hd : 2 ≤ d) : Ex g mX1_isGlued d 0 ks 0 [some (.ref (g.1 + 40))] [] h (qi (fun h' x => h' = h ∧ (glT tb tl b → x = 1) ∧ (¬ glT tb tl b → x = 0))) := by
  have htl := hT.2.2.2
  refine ex_aload_n (pc := 0) dX1_isGlued_0 rfl ?_
  refine ex_get (pc := 1) dX1_isGlued_1 fl_X1_47 hT.1 rfl ?_
  rw [h11]
  refine ex_if_le (pc := 4) (tgt := 35) dX1_isGlued_4 (by decide) (fun c_4 => ?_) (fun c_4 => ?_)
  · skip
    have hb0 : ¬ 0 < b := fun q => nI_nle q (by omega) c_4
    refine ex_iconst (pc := 35) (v := 0) dX1_isGlued_35 (by decide) ?_
    refine ex_zret dX1_isGlued_36 rfl (by first | exact Or.inl rfl | exact Or.inr rfl | exact bI_01 _) ?_
    exact qi_mk ⟨rfl, fun q => absurd q.1 hb0, fun _ => rfl⟩
  · skip
    have hb0 : 0 < b := nI_lt0 c_4
    refine ex_aload_n (pc := 7) dX1_isGlued_7 rfl ?_
    refine ex_aload_n (pc := 8) dX1_isGlued_8 rfl ?_
    refine ex_get (pc := 9) dX1_isGlued_9 fl_X1_47 hT.1 rfl ?_
    rw [h11]
    refine cx_VL1i (pc := 12) dX1_isGlued_12 lk_X1_85 hT.1 rfl (Nat.le_of_ble_eq_true rfl) (Nat.le_of_ble_eq_true rfl) (by omega) (c_R_sortAt hT hB (i := b) (by omega) (by omega)) (fun h_12 x_12 q_12 => ?_)
    obtain ⟨e_12, f_12⟩ := q_12
    rw [e_12, f_12]
    refine bx_if_eq_f (pc := 15) (tgt := 35) dX1_isGlued_15 (by decide) (fun q => hs ((nI_eq (by have := srt_3 tb tl b; omega) (by omega)).mp q)) ?_
    refine ex_aload_n (pc := 18) dX1_isGlued_18 rfl ?_
    refine ex_aload_n (pc := 19) dX1_isGlued_19 rfl ?_
    refine ex_get (pc := 20) dX1_isGlued_20 fl_X1_47 hT.1 rfl ?_
    rw [h11]
    refine ex_iconst (pc := 23) (v := (nI 1)) dX1_isGlued_23 (by decide) ?_
    refine ex_isub (pc := 24) dX1_isGlued_24 ?_
    rw [nI_sub (by omega)]
    refine cx_VL1i (pc := 25) dX1_isGlued_25 lk_X1_85 hT.1 rfl (Nat.le_of_ble_eq_true rfl) (Nat.le_of_ble_eq_true rfl) (by omega) (c_R_sortAt hT hB (i := b - 1) (by omega) (by omega)) (fun h_25 x_25 q_25 => ?_)
    obtain ⟨e_25, f_25⟩ := q_25
    rw [e_25, f_25]
    refine ex_if_eq (pc := 28) (tgt := 35) dX1_isGlued_28 (by decide) (fun c_28 => ?_) (fun c_28 => ?_)
    · skip
      refine ex_iconst (pc := 35) (v := 0) dX1_isGlued_35 (by decide) ?_
      refine ex_zret dX1_isGlued_36 rfl (by first | exact Or.inl rfl | exact Or.inr rfl | exact bI_01 _) ?_
      have e0 : srt tb tl (b - 1) = 0 := (nI_eq (by have := srt_3 tb tl (b - 1); omega) (by omega)).mp c_28
      exact qi_mk ⟨rfl, fun q => absurd e0 q.2, fun _ => rfl⟩
    · skip
      refine ex_iconst (pc := 31) (v := 1) dX1_isGlued_31 (by decide) ?_
      refine ex_goto (pc := 32) (tgt := 36) dX1_isGlued_32 (by decide) ?_
      refine ex_zret dX1_isGlued_36 rfl (by first | exact Or.inl rfl | exact Or.inr rfl | exact bI_01 _) ?_
      have e0 : ¬ srt tb tl (b - 1) = 0 := fun q => c_28 (by rw [q]; rfl)
      exact qi_mk ⟨rfl, fun _ => rfl, fun q => absurd ⟨hb0, e0⟩ q⟩
set_option maxHeartbeats 4000000 in
set_option maxRecDepth 100000 in
theorem c_R_num_a {g : Gl} {d ks : Nat} {h : AH} {r tf : Nat → Int32} {tb : Nat → Nat} {tl b e : Nat} (hT : RdT g h r tf tl) (hB : TpOk tf tb) (h11 : r 11 = nI b) (h12 : r 12 = nI e) (hbe : b ≤ e) (he : e ≤ tl) (hdg : ∀ i, i < e - b → 48 ≤ tb (b + i)) : ∀ (m k : Nat), b + k + m = e → Ex g mX1_numberHere d 0 ks 7 [some (.ref (g.1 + 40)), some (.int (nI (nvl tb b k))), some (.int (nI (b + k)))] [] h (qi (fun h' x => h' = h ∧ x = nI (nvl tb b (e - b)))) := by
  have htl := hT.2.2.2
  intro m
  induction m with
  | zero =>
    intro k hm
    refine ex_iload_n (pc := 7) dX1_numberHere_7 rfl ?_
    refine ex_aload_n (pc := 8) dX1_numberHere_8 rfl ?_
    refine ex_get (pc := 9) dX1_numberHere_9 fl_X1_50 hT.1 rfl ?_
    refine bx_icmp_ge_t (pc := 12) (tgt := 44) dX1_numberHere_12 (by decide) (by rw [h12]; exact nI_le (by omega) (by omega)) ?_
    refine ex_iload_n (pc := 44) dX1_numberHere_44 rfl ?_
    refine ex_ret dX1_numberHere_45 rfl ?_
    exact qi_mk ⟨rfl, by rw [show k = e - b by omega]⟩
  | succ m ih =>
    intro k hm
    refine ex_iload_n (pc := 7) dX1_numberHere_7 rfl ?_
    refine ex_aload_n (pc := 8) dX1_numberHere_8 rfl ?_
    refine ex_get (pc := 9) dX1_numberHere_9 fl_X1_50 hT.1 rfl ?_
    refine bx_icmp_ge_f (pc := 12) (tgt := 44) dX1_numberHere_12 (by decide) (by rw [h12]; exact nI_ge (by omega) (by omega)) ?_
    refine ex_iload_n (pc := 15) dX1_numberHere_15 rfl ?_
    refine ex_aload_n (pc := 16) dX1_numberHere_16 rfl ?_
    refine ex_get (pc := 17) dX1_numberHere_17 fl_X1_15 hT.1 rfl ?_
    refine bx_icmp_ge_f (pc := 20) (tgt := 44) dX1_numberHere_20 (by decide) (by rw [hT.2.2.1]; exact nI_ge (by omega) (by omega)) ?_
    refine ex_iload_n (pc := 23) dX1_numberHere_23 rfl ?_
    refine ex_bipush (pc := 24) (v := (nI 10)) dX1_numberHere_24 (by decide) ?_
    refine ex_imul (pc := 26) dX1_numberHere_26 ?_
    refine ex_aload_n (pc := 27) dX1_numberHere_27 rfl ?_
    refine ex_get (pc := 28) dX1_numberHere_28 fl_X1_9 hT.1 rfl ?_
    refine ex_iload_n (pc := 31) dX1_numberHere_31 rfl ?_
    refine ex_ildn (k := b + k) (pc := 32) dX1_numberHere_32 hT.2.1 rfl (by omega) (by decide) ?_
    rw [(hB (b + k)).1]
    refine ex_iadd (pc := 33) dX1_numberHere_33 ?_
    refine ex_bipush (pc := 34) (v := (nI 48)) dX1_numberHere_34 (by decide) ?_
    refine ex_isub (pc := 36) dX1_numberHere_36 ?_
    have ev : nI (nvl tb b k) * nI 10 + nI (tb (b + k)) - nI 48 = nI (nvl tb b (k + 1)) := by
      have := hdg k (by omega)
      rw [nI_mul, nI_add, nI_sub (by omega), nvl]
      congr 1
      omega
    rw [ev]
    refine sx_istore_n (pc := 37) dX1_numberHere_37 rfl (by decide) ?_
    show Ex _ _ _ _ _ _ [_, _, _] _ _ _
    refine sx_inc (pc := 38) dX1_numberHere_38 rfl rfl (by decide) ?_
    show Ex _ _ _ _ _ _ [_, _, _] _ _ _
    refine ex_goto (pc := 41) (tgt := 7) dX1_numberHere_41 (by decide) ?_
    exact ih (k + 1) (by omega)
set_option maxHeartbeats 4000000 in
set_option maxRecDepth 100000 in
theorem c_R_numberHere {g : Gl} {d ks : Nat} {h : AH} {r tf : Nat → Int32} {tb : Nat → Nat} {tl b e : Nat} (hT : RdT g h r tf tl) (hB : TpOk tf tb) (h11 : r 11 = nI b) (h12 : r 12 = nI e) (hbe : b ≤ e) (he : e ≤ tl) (hdg : ∀ i, i < e - b → 48 ≤ tb (b + i)) : Ex g mX1_numberHere d 0 ks 0 [some (.ref (g.1 + 40)), none, none] [] h (qi (fun h' x => h' = h ∧ x = nI (nvl tb b (e - b)))) := by
  have htl := hT.2.2.2
  refine ex_iconst (pc := 0) (v := (nI 0)) dX1_numberHere_0 (by decide) ?_
  refine sx_istore_n (pc := 1) dX1_numberHere_1 rfl (by decide) ?_
  show Ex _ _ _ _ _ _ [_, _, _] _ _ _
  refine ex_aload_n (pc := 2) dX1_numberHere_2 rfl ?_
  refine ex_get (pc := 3) dX1_numberHere_3 fl_X1_47 hT.1 rfl ?_
  rw [h11]
  refine sx_istore_n (pc := 6) dX1_numberHere_6 rfl (by decide) ?_
  show Ex _ _ _ _ _ _ [_, _, _] _ _ _
  exact c_R_num_a hT hB h11 h12 hbe he hdg (e - b) 0 (by omega)

/-! an image is kept, is gone back to; told rows are checked -/
def wkX (k : Nat) : Prop := k = 0 ∨ rgX 13 k
def m7577 (k : Nat) : Prop := k = 75 ∨ k = 77
set_option maxHeartbeats 4000000 in
set_option maxRecDepth 100000 in
theorem c_W_keep {g : Gl} {d ks : Nat} {h : AH} {ik wc : Int32} {s : Nat → Int32} {n nt : Nat} (hW : h[0]? = some (wtC g ik wc)) (hC : CR g h 1 s n nt) (hI : ShB g h 13) (hd : 3 ≤ d) : Ex g mX6_keep d 0 ks 0 [some (.ref (g.1 + 0))] [] h (qi (fun h' r => (h'[0]? = some (wtC g (nI 1) wc) ∧ CR g h' 13 s n nt ∧ CR g h' 1 s n nt ∧ FrX wkX g h h') ∧ r = nI n)) := by
  have hR := hC.1
  have hP := hC.2.1
  have hn8 := hP.2.1
  have hN := hR.2.1
  obtain ⟨fp, hfp, hfp2⟩ := hR.2.2.2.1
  obtain ⟨s0, w0, h13⟩ := hI.1
  refine ex_aload_n (pc := 0) dX6_keep_0 rfl ?_
  refine ex_get (pc := 1) dX6_keep_1 fl_X6_16 hW rfl ?_
  refine ex_aload_n (pc := 4) dX6_keep_4 rfl ?_
  refine ex_get (pc := 5) dX6_keep_5 fl_X6_10 hW rfl ?_
  refine cx_VL1v (pc := 8) dX6_keep_8 lk_X6_219 h13 rfl (Nat.le_of_ble_eq_true rfl) (Nat.le_of_ble_eq_true rfl) (by omega) (c_R_becomeAs (b := 13) (o := 1) (by omega) (Or.inr (by omega)) (by omega) hC hI) (fun h_8 q_8 => ?_)
  obtain ⟨r1, u1⟩ := q_8
  refine ex_aload_n (pc := 11) dX6_keep_11 rfl ?_
  refine ex_iconst (pc := 12) (v := (nI 1)) dX6_keep_12 (by decide) ?_
  refine ex_put (pc := 13) dX6_keep_13 fp_X6_19 (u1.at (by unfold rgX; omega) (nscr (by omega)) hW) (Nat.le_of_ble_eq_true rfl) rfl rfl ?_
  rw [wt_2]
  have f0 : FrX (fun x => x = 0) g h_8 (h_8.set 0 (wtC g (nI 1) wc)) := FrX.st rfl (nscr (by omega))
  have n1 : CR g (h_8.set 0 (wtC g (nI 1) wc)) 1 s n nt := (hC.fr u1 (fun k hk => by unfold rgX at hk ⊢; omega)).fr f0 (fun k hk => by unfold rgX at hk; omega)
  have n2 : CR g (h_8.set 0 (wtC g (nI 1) wc)) 13 s n nt := r1.fr f0 (fun k hk => by unfold rgX at hk; omega)
  refine ex_aload_n (pc := 16) dX6_keep_16 rfl ?_
  refine ex_get (pc := 17) dX6_keep_17 fl_X6_10 (gs_eq (u1.at (by unfold rgX; omega) (nscr (by omega)) hW)) rfl ?_
  refine ex_get (pc := 20) dX6_keep_20 fl_X6_79 n1.1.1 rfl ?_
  refine ex_ret dX6_keep_23 rfl ?_
  rw [hN]
  exact qi_mk ⟨⟨gs_eq (u1.at (by unfold rgX; omega) (nscr (by omega)) hW), n2, n1, FrX.tr (u1.mono (fun k hk => Or.inr hk)) (f0.mono (fun k hk => Or.inl hk))⟩, rfl⟩
set_option maxHeartbeats 4000000 in
set_option maxRecDepth 100000 in
theorem c_M_keep {g : Gl} {d ks : Nat} {h : AH} {z s : Nat → Int32} {n nt : Nat} (hR : MR g h z s n nt) {fi : Nat → Int32} (h77 : h[77]? = some (ia g 3090 fi)) (hd : 1 ≤ d) : Ex g mX7_keep d 0 ks 0 [some (.ref (g.1 + 75))] [] h (qi (fun h' r => (MR g h' (upd z 3 (nI 1)) s n nt ∧ h'[77]? = some (ia g 3090 (bkF s fi 2890)) ∧ FrX m7577 g h h') ∧ r = nI n)) := by
  have hM := hR.1
  have hP := hR.2.1
  have hn8 := hP.2.1
  have hN := hP.1
  refine ex_aload_n (pc := 0) dX7_keep_0 rfl ?_
  refine ex_iconst (pc := 1) (v := (nI 1)) dX7_keep_1 (by decide) ?_
  refine ex_put (pc := 2) dX7_keep_2 fp_X7_392 hM.1 (Nat.le_of_ble_eq_true rfl) rfl rfl ?_
  rw [mo_3]
  have hR1 := mr_z hR (upd z 3 (nI 1))
  refine ex_aload_n (pc := 5) dX7_keep_5 rfl ?_
  refine ex_aload_n (pc := 6) dX7_keep_6 rfl ?_
  refine ex_get (pc := 7) dX7_keep_7 fl_X7_7 hR1.1.1 rfl ?_
  refine ex_aload_n (pc := 10) dX7_keep_10 rfl ?_
  refine ex_get (pc := 11) dX7_keep_11 fl_X7_13 hR1.1.1 rfl ?_
  refine cx_VL2v (pc := 14) dX7_keep_14 lk_X7_396 hR1.1.1 rfl (Nat.le_of_ble_eq_true rfl) (Nat.le_of_ble_eq_true rfl) (by omega) (c_M_setAside (q0 := 76) (q1 := 77) (by omega) (by omega) hR1.1.2 (gs_ne (by decide) h77)) (fun h_14 q_14 => ?_)
  obtain ⟨e1, u1⟩ := q_14
  have r2 := hR1.fr u1 (by decide) (by decide)
  refine ex_aload_n (pc := 17) dX7_keep_17 rfl ?_
  refine ex_get (pc := 18) dX7_keep_18 fl_X7_7 r2.1.1 rfl ?_
  refine ex_iconst (pc := 21) (v := (nI 0)) dX7_keep_21 (by decide) ?_
  refine ex_ildn (k := 0) (pc := 22) dX7_keep_22 r2.1.2 rfl (by decide) (by decide) ?_
  refine ex_ret dX7_keep_23 rfl ?_
  rw [hN]
  exact qi_mk ⟨⟨r2, e1, FrX.tr (FrX.st (Or.inl rfl) (nscr (by omega))) (u1.mono (fun k hk => Or.inr hk))⟩, rfl⟩
def aBack (ik : Int32) (ni : Nat) : Int32 := if ik = 0 then -1000000002 else nI ni
set_option maxHeartbeats 4000000 in
set_option maxRecDepth 100000 in
theorem c_W_back_n {g : Gl} {d ks : Nat} {h : AH} {wc : Int32} (hW : h[0]? = some (wtC g 0 wc)) : Ex g mX6_back d 0 ks 0 [some (.ref (g.1 + 0))] [] h (qi (fun h' r => h' = h ∧ r = -1000000002)) := by
  refine ex_aload_n (pc := 0) dX6_back_0 rfl ?_
  refine ex_get (pc := 1) dX6_back_1 fl_X6_19 hW rfl ?_
  refine bx_if_ne_f (pc := 4) (tgt := 10) dX6_back_4 (by decide) (rfl) ?_
  refine ex_ldc (pc := 7) dX6_back_7 cn_X6_78 ?_
  refine ex_ret dX6_back_9 rfl ?_
  exact qi_mk ⟨rfl, rfl⟩
set_option maxHeartbeats 4000000 in
set_option maxRecDepth 100000 in
theorem c_W_back_y {g : Gl} {d ks : Nat} {h : AH} {wc : Int32} {im : Nat → Int32} {ni nti : Nat} (hW : h[0]? = some (wtC g (nI 1) wc)) (hI : CR g h 13 im ni nti) (hS : ShB g h 1) (hd : 3 ≤ d) : Ex g mX6_back d 0 ks 0 [some (.ref (g.1 + 0))] [] h (qi (fun h' r => (CR g h' 1 im ni nti ∧ FrX (rgX 1) g h h') ∧ r = nI ni)) := by
  obtain ⟨s0, w0, h1⟩ := hS.1
  refine ex_aload_n (pc := 0) dX6_back_0 rfl ?_
  refine ex_get (pc := 1) dX6_back_1 fl_X6_19 hW rfl ?_
  refine bx_if_ne_t (pc := 4) (tgt := 10) dX6_back_4 (by decide) (by decide) ?_
  refine ex_aload_n (pc := 10) dX6_back_10 rfl ?_
  refine ex_get (pc := 11) dX6_back_11 fl_X6_10 hW rfl ?_
  refine ex_aload_n (pc := 14) dX6_back_14 rfl ?_
  refine ex_get (pc := 15) dX6_back_15 fl_X6_16 hW rfl ?_
  refine cx_VL1v (pc := 18) dX6_back_18 lk_X6_219 h1 rfl (Nat.le_of_ble_eq_true rfl) (Nat.le_of_ble_eq_true rfl) (by omega) (c_R_becomeAs (b := 1) (o := 13) (by omega) (Or.inl (by omega)) (by omega) hI hS) (fun h_18 q_18 => ?_)
  obtain ⟨r1, u1⟩ := q_18
  refine ex_aload_n (pc := 21) dX6_back_21 rfl ?_
  refine ex_get (pc := 22) dX6_back_22 fl_X6_10 (u1.at (by unfold rgX; omega) (nscr (by omega)) hW) rfl ?_
  refine ex_get (pc := 25) dX6_back_25 fl_X6_79 r1.1.1 rfl ?_
  refine ex_ret dX6_back_28 rfl ?_
  rw [r1.1.2.1]
  exact qi_mk ⟨⟨r1, u1⟩, rfl⟩
set_option maxHeartbeats 4000000 in
set_option maxRecDepth 100000 in
theorem c_M_back_n {g : Gl} {d ks : Nat} {h : AH} {z s : Nat → Int32} (hM : Ms g h z s) (hz : z 3 = 0) : Ex g mX7_back d 0 ks 0 [some (.ref (g.1 + 75))] [] h (qi (fun h' r => h' = h ∧ r = -1000000002)) := by
  refine ex_aload_n (pc := 0) dX7_back_0 rfl ?_
  refine ex_get (pc := 1) dX7_back_1 fl_X7_392 hM.1 rfl ?_
  refine bx_if_ne_f (pc := 4) (tgt := 10) dX7_back_4 (by decide) (hz) ?_
  refine ex_ldc (pc := 7) dX7_back_7 cn_X7_165 ?_
  refine ex_ret dX7_back_9 rfl ?_
  exact qi_mk ⟨rfl, rfl⟩
set_option maxHeartbeats 4000000 in
set_option maxRecDepth 100000 in
theorem c_M_back_y {g : Gl} {d ks : Nat} {h : AH} {z s : Nat → Int32} {n nt : Nat} (hR : MR g h z s n nt) {im : Nat → Int32} {ni nti : Nat} (hz : z 3 = nI 1) (h77 : h[77]? = some (ia g 3090 im)) (hP : POk im ni) (hTO : TO im nti) (hd : 1 ≤ d) : Ex g mX7_back d 0 ks 0 [some (.ref (g.1 + 75))] [] h (qi (fun h' r => (MR g h' z (bkF im s 2890) ni nti ∧ FrX (fun x => x = 76) g h h') ∧ r = nI ni)) := by
  refine ex_aload_n (pc := 0) dX7_back_0 rfl ?_
  refine ex_get (pc := 1) dX7_back_1 fl_X7_392 hR.1.1 rfl ?_
  refine bx_if_ne_t (pc := 4) (tgt := 10) dX7_back_4 (by decide) (by rw [hz]; decide) ?_
  refine ex_aload_n (pc := 10) dX7_back_10 rfl ?_
  refine ex_aload_n (pc := 11) dX7_back_11 rfl ?_
  refine ex_get (pc := 12) dX7_back_12 fl_X7_13 hR.1.1 rfl ?_
  refine ex_aload_n (pc := 15) dX7_back_15 rfl ?_
  refine ex_get (pc := 16) dX7_back_16 fl_X7_7 hR.1.1 rfl ?_
  refine cx_VL2v (pc := 19) dX7_back_19 lk_X7_396 hR.1.1 rfl (Nat.le_of_ble_eq_true rfl) (Nat.le_of_ble_eq_true rfl) (by omega) (c_M_setAside (q0 := 77) (q1 := 76) (by omega) (by omega) h77 hR.1.2) (fun h_19 q_19 => ?_)
  obtain ⟨e1, u1⟩ := q_19
  refine ex_aload_n (pc := 22) dX7_back_22 rfl ?_
  refine ex_get (pc := 23) dX7_back_23 fl_X7_7 (u1.at (by decide) (nscr (by omega)) hR.1.1) rfl ?_
  refine ex_iconst (pc := 26) (v := (nI 0)) dX7_back_26 (by decide) ?_
  refine ex_ildn (k := 0) (pc := 27) dX7_back_27 e1 rfl (by decide) (by decide) ?_
  refine ex_ret dX7_back_28 rfl ?_
  obtain ⟨hM', -, -, ⟨nm, a5⟩, fp, a6⟩ := hR
  rw [show bkF im s 2890 0 = nI ni from (if_pos (by decide)).trans hP.1]
  exact qi_mk ⟨⟨⟨⟨u1.at (by decide) (nscr (by omega)) hM'.1, e1⟩, hP.ag (bk_agr _ _), hTO.ag (bk_agr _ _), u1.2.2 90 (Or.inl rfl) _ _ a5, u1.2.2 91 (Or.inr (Or.inl rfl)) _ _ a6⟩, u1⟩, rfl⟩
noncomputable def ckV (im : Nat → Int32) (ni nti k : Nat) : Int32 := if k % 2 = 0 then hrsS im nti ni (k / 2 + 1) 5 else trd (hrsS im nti ni (k / 2 + 1)) ni
noncomputable def ckR (im : Nat → Int32) (ni nti : Nat) (wf : Nat → Int32) (c due : Nat) : Nat → Nat → Int32
  | 0, _ => if due < c then nI (1 + due) else nI 0
  | m + 1, k => if c ≤ k ∨ ¬ wf k = ckV im ni nti k then nI (1 + k) else ckR im ni nti wf c due m (k + 1)
def ckM (im : Nat → Int32) (N : Nat) : Nat := min N (9999 - (im 2).toNatClampNeg)
noncomputable def aCheck (ik : Int32) (im : Nat → Int32) (ni nti : Nat) (wf : Nat → Int32) (c : Nat) (N : Int32) : Int32 := if bq N 1 30 then (if ik = 0 then -1000000002 else ckR im ni nti wf c (2 * ckM im (ixI N)) (2 * ckM im (ixI N)) 0) else -1000000001
def w0t (k : Nat) : Prop := k = 0 ∨ thX k
set_option maxHeartbeats 4000000 in
set_option maxRecDepth 100000 in
theorem c_W_check_l {g : Gl} {d ks : Nat} {h : AH} {ik wc N : Int32} {im wf : Nat → Int32} {ni nti c M : Nat} (hM : M ≤ 30) (hc : c ≤ 60) (hok : HOk im ni) (h46 : h[46]? = some (ia g 60 wf)) (hd : 5 ≤ d) : ∀ (m k : Nat) (l : Option Value) (h1 : AH), h1[0]? = some (wtC g ik wc) → CR g h1 25 (hrsS im nti ni ((k + 1) / 2)) ni nti → ThB g h1 → FrX thX g h h1 → k + m = 2 * M → Ex g mX6_check d 0 ks 66 [some (.ref (g.1 + 0)), some (.int N), some (.int (nI c)), some (.int (nI (2 * M))), some (.int (nI (k))), l] [] h1 (qi (fun h' r => (ThB g h' ∧ FrX thX g h h') ∧ r = ckR im ni nti wf c (2 * M) m k)) := by
  intro m
  induction m with
  | zero =>
    intro k l h1 hW1 hC25 hT1 hF hk
    refine ex_iload (pc := 66) dX6_check_66 rfl ?_
    refine ex_iload_n (pc := 68) dX6_check_68 rfl ?_
    refine bx_icmp_ge_t (pc := 69) (tgt := 142) dX6_check_69 (by decide) (by rw [show k = 2 * M by omega]; exact Int32.le_refl _) ?_
    refine ex_iload_n (pc := 142) dX6_check_142 rfl ?_
    refine ex_iload_n (pc := 143) dX6_check_143 rfl ?_
    refine ex_icmp_le (pc := 144) (tgt := 153) dX6_check_144 (by decide) (fun c_144 => ?_) (fun c_144 => ?_)
    · skip
      refine ex_iconst (pc := 153) (v := 0) dX6_check_153 (by decide) ?_
      refine ex_ret dX6_check_154 rfl ?_
      refine qi_mk ⟨⟨hT1, hF⟩, ?_⟩
      rw [ckR, if_neg (fun z => absurd c_144 (nI_ge z (by omega)))]
      rfl
    · skip
      refine ex_iconst (pc := 147) (v := (nI 1)) dX6_check_147 (by decide) ?_
      refine ex_iload_n (pc := 148) dX6_check_148 rfl ?_
      refine ex_iadd (pc := 149) dX6_check_149 ?_
      refine ex_goto (pc := 150) (tgt := 154) dX6_check_150 (by decide) ?_
      refine ex_ret dX6_check_154 rfl ?_
      refine qi_mk ⟨⟨hT1, hF⟩, ?_⟩
      rw [ckR, if_pos (Nat.not_le.mp (fun q => c_144 (nI_le q (by omega))))]
      exact nI_add 1 (2 * M)
  | succ m ih =>
    intro k l h1 hW1 hC25 hT1 hF hk
    refine ex_iload (pc := 66) dX6_check_66 rfl ?_
    refine ex_iload_n (pc := 68) dX6_check_68 rfl ?_
    refine bx_icmp_ge_f (pc := 69) (tgt := 142) dX6_check_69 (by decide) (nI_ge (by omega) (by omega)) ?_
    refine ex_iload (pc := 72) dX6_check_72 rfl ?_
    refine ex_iconst (pc := 74) (v := (nI 2)) dX6_check_74 (by decide) ?_
    refine ex_irem (pc := 75) dX6_check_75 (by decide) ?_
    rw [nI_rem (by omega) (by decide) (by decide)]
    refine ex_if_ne (pc := 76) (tgt := 87) dX6_check_76 (by decide) (fun c_76 => ?_) (fun c_76 => ?_)
    · skip
      have he : ¬ k % 2 = 0 := fun z => c_76 (by rw [z]; rfl)
      have hC25' : CR g h1 25 (hrsS im nti ni (k / 2 + 1)) ni nti := by rw [show k / 2 + 1 = (k + 1) / 2 by omega]; exact hC25
      refine ex_iload (pc := 87) dX6_check_87 rfl ?_
      refine ex_iconst (pc := 89) (v := (nI 2)) dX6_check_89 (by decide) ?_
      refine ex_irem (pc := 90) dX6_check_90 (by decide) ?_
      rw [nI_rem (by omega) (by decide) (by decide)]
      refine bx_if_ne_t (pc := 91) (tgt := 104) dX6_check_91 (by decide) (c_76) ?_
      refine ex_aload_n (pc := 104) dX6_check_104 rfl ?_
      refine ex_get (pc := 105) dX6_check_105 fl_X6_23 hW1 rfl ?_
      refine cx_VL0i (pc := 108) dX6_check_108 lk_X6_330 hC25'.1.1 rfl (Nat.le_of_ble_eq_true rfl) (Nat.le_of_ble_eq_true rfl) (by omega) (c_R_tiredOfAll hC25'.1) (fun h_108 x_108 q_108 => ?_)
      obtain ⟨e_108, f_108⟩ := q_108
      rw [e_108, f_108]
      refine sx_istore (pc := 111) dX6_check_111 rfl (by decide) ?_
      show Ex _ _ _ _ _ _ [_, _, _, _, _, _] _ _ _
      refine ex_iload (pc := 113) dX6_check_113 rfl ?_
      refine ex_iload_n (pc := 115) dX6_check_115 rfl ?_
      refine ex_icmp_ge (pc := 116) (tgt := 131) dX6_check_116 (by decide) (fun c_116 => ?_) (fun c_116 => ?_)
      · skip
        refine ex_iconst (pc := 131) (v := (nI 1)) dX6_check_131 (by decide) ?_
        refine ex_iload (pc := 132) dX6_check_132 rfl ?_
        refine ex_iadd (pc := 134) dX6_check_134 ?_
        refine ex_ret dX6_check_135 rfl ?_
        have kv : ckV im ni nti k = trd (hrsS im nti ni (k / 2 + 1)) ni := if_neg he
        refine qi_mk ⟨⟨hT1, hF⟩, ?_⟩
        rw [ckR, if_pos (Or.inl ((nI_leI (by omega) (by omega)).mp c_116))]
        exact nI_add 1 k
      · skip
        refine ex_aload_n (pc := 119) dX6_check_119 rfl ?_
        refine ex_get (pc := 120) dX6_check_120 fl_X6_60 hW1 rfl ?_
        refine ex_iload (pc := 123) dX6_check_123 rfl ?_
        refine ex_ildn (k := k) (pc := 125) dX6_check_125 (th_at hF (by omega) (by omega) h46) rfl ((nI_ltI (by omega) (by omega)).mp (Int32.not_le.mp c_116) |> fun q => by omega) (by decide) ?_
        refine ex_iload (pc := 126) dX6_check_126 rfl ?_
        refine ex_icmp_eq (pc := 128) (tgt := 136) dX6_check_128 (by decide) (fun c_128 => ?_) (fun c_128 => ?_)
        · skip
          first | refine sx_inc (pc := 136) dX6_check_136 rfl rfl (by decide) ?_ | refine sx_iinc (pc := 136) dX6_check_136 rfl rfl (by decide) ?_
          show Ex _ _ _ _ _ _ [_, _, _, _, _, _] _ _ _
          refine ex_goto (pc := 139) (tgt := 66) dX6_check_139 (by decide) ?_
          have kv : ckV im ni nti k = trd (hrsS im nti ni (k / 2 + 1)) ni := if_neg he
          have kc : ¬ (c ≤ k ∨ ¬ wf k = ckV im ni nti k) := fun z => z.elim (fun q => c_116 (nI_le q (by omega))) (fun q => q (by rw [kv]; exact c_128))
          have z := ih (k + 1) (some (.int (trd (hrsS im nti ni (k / 2 + 1)) ni))) _ hW1 (by rw [show (k + 1 + 1) / 2 = k / 2 + 1 by omega]; exact hC25') hT1 hF (by omega)
          refine z.mono (fun h' r a => ?_)
          obtain ⟨x, e, a1, a2⟩ := a
          exact ⟨x, e, a1, by rw [a2, ckR, if_neg kc]⟩
        · skip
          refine ex_iconst (pc := 131) (v := (nI 1)) dX6_check_131 (by decide) ?_
          refine ex_iload (pc := 132) dX6_check_132 rfl ?_
          refine ex_iadd (pc := 134) dX6_check_134 ?_
          refine ex_ret dX6_check_135 rfl ?_
          have kv : ckV im ni nti k = trd (hrsS im nti ni (k / 2 + 1)) ni := if_neg he
          refine qi_mk ⟨⟨hT1, hF⟩, ?_⟩
          rw [ckR, if_pos (Or.inr (by rw [kv]; exact c_128))]
          exact nI_add 1 k
    · skip
      have he : k % 2 = 0 := (nI_eq (by omega) (by omega)).mp c_76
      refine ex_aload_n (pc := 79) dX6_check_79 rfl ?_
      refine ex_get (pc := 80) dX6_check_80 fl_X6_23 hW1 rfl ?_
      refine ex_iconst (pc := 83) (v := (nI 1)) dX6_check_83 (by decide) ?_
      refine cx_VL1v (pc := 84) dX6_check_84 lk_X6_212 hC25.1.1 rfl (Nat.le_of_ble_eq_true rfl) (Nat.le_of_ble_eq_true rfl) (by omega) (c_R_passHours hC25 (hrs_ok hok _).1 (by omega) _) (fun h_84 q_84 => ?_)
      obtain ⟨r2, u2⟩ := q_84
      rw [show (nI 1).toNatClampNeg = 1 by decide] at r2
      have e1 : hrsS (hrsS im nti ni ((k + 1) / 2)) nti ni 1 = hrsS im nti ni (k / 2 + 1) := by
        show hrsS im nti ni ((k + 1) / 2 + 1) = _
        rw [show (k + 1) / 2 = k / 2 by omega]
      rw [e1] at r2
      refine ex_iload (pc := 87) dX6_check_87 rfl ?_
      refine ex_iconst (pc := 89) (v := (nI 2)) dX6_check_89 (by decide) ?_
      refine ex_irem (pc := 90) dX6_check_90 (by decide) ?_
      rw [nI_rem (by omega) (by decide) (by decide)]
      refine bx_if_ne_f (pc := 91) (tgt := 104) dX6_check_91 (by decide) (c_76) ?_
      refine ex_aload_n (pc := 94) dX6_check_94 rfl ?_
      refine ex_get (pc := 95) dX6_check_95 fl_X6_23 (th_at (rg_th (rm_rg u2)) (by omega) (by omega) hW1) rfl ?_
      refine ex_get (pc := 98) dX6_check_98 fl_X6_209 r2.1.1 rfl ?_
      refine ex_goto (pc := 101) (tgt := 111) dX6_check_101 (by decide) ?_
      refine sx_istore (pc := 111) dX6_check_111 rfl (by decide) ?_
      show Ex _ _ _ _ _ _ [_, _, _, _, _, _] _ _ _
      refine ex_iload (pc := 113) dX6_check_113 rfl ?_
      refine ex_iload_n (pc := 115) dX6_check_115 rfl ?_
      refine ex_icmp_ge (pc := 116) (tgt := 131) dX6_check_116 (by decide) (fun c_116 => ?_) (fun c_116 => ?_)
      · skip
        refine ex_iconst (pc := 131) (v := (nI 1)) dX6_check_131 (by decide) ?_
        refine ex_iload (pc := 132) dX6_check_132 rfl ?_
        refine ex_iadd (pc := 134) dX6_check_134 ?_
        refine ex_ret dX6_check_135 rfl ?_
        have kv : ckV im ni nti k = hrsS im nti ni (k / 2 + 1) 5 := if_pos he
        refine qi_mk ⟨⟨(ThB.mk r2 hT1 (rm_rg u2)), (hF.tr (rg_th (rm_rg u2)))⟩, ?_⟩
        rw [ckR, if_pos (Or.inl ((nI_leI (by omega) (by omega)).mp c_116))]
        exact nI_add 1 k
      · skip
        refine ex_aload_n (pc := 119) dX6_check_119 rfl ?_
        refine ex_get (pc := 120) dX6_check_120 fl_X6_60 (th_at (rg_th (rm_rg u2)) (by omega) (by omega) hW1) rfl ?_
        refine ex_iload (pc := 123) dX6_check_123 rfl ?_
        refine ex_ildn (k := k) (pc := 125) dX6_check_125 (th_at (rg_th (rm_rg u2)) (by omega) (by omega) (th_at hF (by omega) (by omega) h46)) rfl ((nI_ltI (by omega) (by omega)).mp (Int32.not_le.mp c_116) |> fun q => by omega) (by decide) ?_
        refine ex_iload (pc := 126) dX6_check_126 rfl ?_
        refine ex_icmp_eq (pc := 128) (tgt := 136) dX6_check_128 (by decide) (fun c_128 => ?_) (fun c_128 => ?_)
        · skip
          first | refine sx_inc (pc := 136) dX6_check_136 rfl rfl (by decide) ?_ | refine sx_iinc (pc := 136) dX6_check_136 rfl rfl (by decide) ?_
          show Ex _ _ _ _ _ _ [_, _, _, _, _, _] _ _ _
          refine ex_goto (pc := 139) (tgt := 66) dX6_check_139 (by decide) ?_
          have kv : ckV im ni nti k = hrsS im nti ni (k / 2 + 1) 5 := if_pos he
          have kc : ¬ (c ≤ k ∨ ¬ wf k = ckV im ni nti k) := fun z => z.elim (fun q => c_116 (nI_le q (by omega))) (fun q => q (by rw [kv]; exact c_128))
          have z := ih (k + 1) (some (.int (hrsS im nti ni (k / 2 + 1) 5))) _ (th_at (rg_th (rm_rg u2)) (by omega) (by omega) hW1) (by rw [show (k + 1 + 1) / 2 = k / 2 + 1 by omega]; exact r2) (ThB.mk r2 hT1 (rm_rg u2)) (hF.tr (rg_th (rm_rg u2))) (by omega)
          refine z.mono (fun h' r a => ?_)
          obtain ⟨x, e, a1, a2⟩ := a
          exact ⟨x, e, a1, by rw [a2, ckR, if_neg kc]⟩
        · skip
          refine ex_iconst (pc := 131) (v := (nI 1)) dX6_check_131 (by decide) ?_
          refine ex_iload (pc := 132) dX6_check_132 rfl ?_
          refine ex_iadd (pc := 134) dX6_check_134 ?_
          refine ex_ret dX6_check_135 rfl ?_
          have kv : ckV im ni nti k = hrsS im nti ni (k / 2 + 1) 5 := if_pos he
          refine qi_mk ⟨⟨(ThB.mk r2 hT1 (rm_rg u2)), (hF.tr (rg_th (rm_rg u2)))⟩, ?_⟩
          rw [ckR, if_pos (Or.inr (by rw [kv]; exact c_128))]
          exact nI_add 1 k
set_option maxHeartbeats 4000000 in
set_option maxRecDepth 100000 in
theorem c_W_check {g : Gl} {d ks : Nat} {h : AH} {ik : Int32} {c : Nat} {im wf : Nat → Int32} {ni nti : Nat} (hW : h[0]? = some (wtC g ik (nI c))) (hc : c ≤ 60) (h46 : h[46]? = some (ia g 60 wf)) (hT : ThB g h) (hik : ik = 0 ∨ ik = nI 1) (hI : ik = nI 1 → CR g h 13 im ni nti ∧ HOk im ni ∧ ∃ hr, hr ≤ 9999 ∧ im 2 = nI hr) (hd : 6 ≤ d) (N : Int32) : Ex g mX6_check d 0 ks 0 [some (.ref (g.1 + 0)), some (.int N), none, none, none, none] [] h (qi (fun h' r => (h'[0]? = some (wtC g ik (nI 0)) ∧ ThB g h' ∧ FrX w0t g h h') ∧ r = aCheck ik im ni nti wf c N)) := by
  refine ex_aload_n (pc := 0) dX6_check_0 rfl ?_
  refine ex_get (pc := 1) dX6_check_1 fl_X6_63 hW rfl ?_
  refine sx_istore_n (pc := 4) dX6_check_4 rfl (by decide) ?_
  show Ex _ _ _ _ _ _ [_, _, _, _, _, _] _ _ _
  refine ex_aload_n (pc := 5) dX6_check_5 rfl ?_
  refine ex_iconst (pc := 6) (v := (nI 0)) dX6_check_6 (by decide) ?_
  refine ex_put (pc := 7) dX6_check_7 fp_X6_63 hW (Nat.le_of_ble_eq_true rfl) rfl rfl ?_
  rw [wt_11]
  have f0 : FrX (fun x => x = 0) g h (h.set 0 (wtC g ik (nI 0))) := FrX.st rfl (nscr (by omega))
  have hW1 : (h.set 0 (wtC g ik (nI 0)))[0]? = some (wtC g ik (nI 0)) := gs_eq hW
  have hT1 : ThB g (h.set 0 (wtC g ik (nI 0))) := hT.fr f0 (fun k hk => by unfold thX at hk; omega)
  refine ex_iload_n (pc := 10) dX6_check_10 rfl ?_
  refine ex_iconst (pc := 11) (v := (nI 1)) dX6_check_11 (by decide) ?_
  refine ex_icmp_lt (pc := 12) (tgt := 21) dX6_check_12 (by decide) (fun c_12 => ?_) (fun c_12 => ?_)
  · skip
    refine ex_ldc (pc := 21) dX6_check_21 cn_X6_73 ?_
    refine ex_ret dX6_check_23 rfl ?_
    refine qi_mk ⟨⟨hW1, hT1, f0.mono (fun k hk => Or.inl hk)⟩, ?_⟩
    unfold aCheck
    rw [if_neg (by rw [bq_f1 c_12]; decide)]
  · skip
    refine ex_iload_n (pc := 15) dX6_check_15 rfl ?_
    refine ex_bipush (pc := 16) (v := (nI 30)) dX6_check_16 (by decide) ?_
    refine ex_icmp_le (pc := 18) (tgt := 24) dX6_check_18 (by decide) (fun c_18 => ?_) (fun c_18 => ?_)
    · skip
      refine ex_aload_n (pc := 24) dX6_check_24 rfl ?_
      refine ex_get (pc := 25) dX6_check_25 fl_X6_19 hW1 rfl ?_
      refine ex_if_ne (pc := 28) (tgt := 34) dX6_check_28 (by decide) (fun c_28 => ?_) (fun c_28 => ?_)
      · skip
        have e1 : ik = nI 1 := hik.resolve_left c_28
        obtain ⟨hI0, hok, hr, hhr, ehr⟩ := hI e1
        have hI1 : CR g (h.set 0 (wtC g ik (nI 0))) 13 im ni nti := hI0.fr f0 (fun k hk => by unfold rgX at hk; omega)
        obtain ⟨s0, w00, h25⟩ := hT1.1.1
        obtain ⟨N0, hN1, hN2, rfl⟩ := bq_ex (bq_t c_12 c_18)
        have i_N : ixI (nI N0) = N0 := iK (by omega)
        have eM : ckM im N0 = min N0 (9999 - hr) := by unfold ckM; rw [ehr, iK (by omega)]
        refine ex_aload_n (pc := 34) dX6_check_34 rfl ?_
        refine ex_get (pc := 35) dX6_check_35 fl_X6_23 hW1 rfl ?_
        refine ex_aload_n (pc := 38) dX6_check_38 rfl ?_
        refine ex_get (pc := 39) dX6_check_39 fl_X6_16 hW1 rfl ?_
        refine cx_VL1v (pc := 42) dX6_check_42 lk_X6_219 h25 rfl (Nat.le_of_ble_eq_true rfl) (Nat.le_of_ble_eq_true rfl) (by omega) (c_R_becomeAs (b := 25) (o := 13) (by omega) (Or.inr (by omega)) (by omega) hI1 hT1.1) (fun h_42 q_42 => ?_)
        obtain ⟨r1, u1⟩ := q_42
        refine ex_iconst (pc := 45) (v := (nI 2)) dX6_check_45 (by decide) ?_
        refine ex_iload_n (pc := 46) dX6_check_46 rfl ?_
        refine ex_sipush (pc := 47) (v := (nI 9999)) dX6_check_47 (by decide) ?_
        refine ex_aload_n (pc := 50) dX6_check_50 rfl ?_
        refine ex_get (pc := 51) dX6_check_51 fl_X6_16 (rg_0 u1 hW1) rfl ?_
        refine ex_get (pc := 54) dX6_check_54 fl_X6_106 (hI1.fr u1 (fun k hk => by unfold rgX at hk ⊢; omega)).1.1 rfl ?_
        refine ex_isub (pc := 57) dX6_check_57 ?_
        refine cx_SL2i (pc := 58) dX6_check_58 lk_X6_165 rfl (Nat.le_of_ble_eq_true rfl) (Nat.le_of_ble_eq_true rfl) (by omega) (c_min _ _) (fun h_58 x_58 q_58 => ?_)
        obtain ⟨e_58, f_58⟩ := q_58
        rw [e_58, f_58, ehr, nI_sub hhr, mn_nI (by omega) (by omega)]
        refine ex_imul (pc := 61) dX6_check_61 ?_
        rw [nI_mul, ← eM]
        refine sx_istore_n (pc := 62) dX6_check_62 rfl (by decide) ?_
        show Ex _ _ _ _ _ _ [_, _, _, _, _, _] _ _ _
        refine ex_iconst (pc := 63) (v := (nI 0)) dX6_check_63 (by decide) ?_
        refine sx_istore (pc := 64) dX6_check_64 rfl (by decide) ?_
        show Ex _ _ _ _ _ _ [_, _, _, _, _, _] _ _ _
        have hM : ckM im N0 ≤ 30 := by rw [eM]; omega
        refine (c_W_check_l (h := h_42) hM hc hok (u1.at (by unfold rgX; omega) (nscr (by omega)) (gs_ne (by decide) h46)) (by omega) (2 * ckM im N0) 0 _ h_42 (rg_0 u1 hW1) r1 (ThB.mk r1 hT1 u1) FrX.rf (by omega)).mono (fun h' r a => ?_)
        obtain ⟨x, e, ⟨a1, a2⟩, a3⟩ := a
        refine ⟨x, e, ⟨th_at a2 (by omega) (by omega) (rg_0 u1 hW1), a1, ?_⟩, ?_⟩
        · exact ((f0.mono (fun k hk => Or.inl hk)).tr ((rg_th u1).mono (fun k hk => Or.inr hk))).tr (a2.mono (fun k hk => Or.inr hk))
        · rw [a3]
          unfold aCheck
          rw [if_pos (bq_t c_12 c_18), if_neg c_28, i_N]
      · skip
        refine ex_ldc (pc := 31) dX6_check_31 cn_X6_78 ?_
        refine ex_ret dX6_check_33 rfl ?_
        refine qi_mk ⟨⟨hW1, hT1, f0.mono (fun k hk => Or.inl hk)⟩, ?_⟩
        unfold aCheck
        rw [if_pos (bq_t c_12 c_18), if_pos c_28]
    · skip
      refine ex_ldc (pc := 21) dX6_check_21 cn_X6_73 ?_
      refine ex_ret dX6_check_23 rfl ?_
      refine qi_mk ⟨⟨hW1, hT1, f0.mono (fun k hk => Or.inl hk)⟩, ?_⟩
      unfold aCheck
      rw [if_neg (by rw [bq_f2 c_18]; decide)]
theorem bk_bk {s f78 im u' : Nat → Int32} (h : lowD (bkF im s 2890) u') : bkF (bkF s f78 2890) u' 2890 = s := by
  funext k
  unfold bkF
  by_cases e : k < 2890
  · rw [if_pos e, if_pos e]
  · rw [if_neg e, h k (by omega)]
    unfold bkF
    rw [if_neg e]
theorem ck_0 {im wf : Nat → Int32} {ni nti c due : Nat} : ∀ m k, k + m = due → c ≤ k → ckR im ni nti wf c due m k = if m = 0 ∧ ¬ due < c then nI 0 else nI (1 + k) := by
  intro m k hk hc
  cases m with
  | zero =>
    rw [ckR, if_neg (by omega), if_pos ⟨rfl, by omega⟩]
  | succ m => rw [ckR, if_pos (Or.inl hc), if_neg (fun z => absurd z.1 (Nat.succ_ne_zero m))]
def mckX (k : Nat) : Prop := k = 75 ∨ mtX k
set_option maxHeartbeats 4000000 in
set_option maxRecDepth 100000 in
theorem c_M_check_2 {g : Gl} {d ks : Nat} {h : AH} {z : Nat → Int32} {N : Int32} {u wf fd : Nat → Int32} {ni nti c due : Nat} (hM : h[75]? = some (moC g z)) (h93 : h[93]? = some (ia g 60 wf)) (h94 : h[94]? = some (ia g 60 fd)) (hc : c ≤ 60) (hdue : due ≤ 60) (hfd : ∀ k, k < due → fd k = ckV u ni nti k) : ∀ (m k : Nat), k ≤ c → k + m = due → Ex g mX7_check d 0 ks 134 [some (.ref (g.1 + 75)), some (.int N), some (.int (nI c)), some (.int (nI due)), some (.int (nI (k)))] [] h (qi (fun h' r => h' = h ∧ r = ckR u ni nti wf c due m k)) := by
  intro m
  induction m with
  | zero =>
    intro k hkc hk
    by_cases hck : c ≤ k
    · skip
      refine ex_iload (pc := 134) dX7_check_134 rfl ?_
      refine ex_iload_n (pc := 136) dX7_check_136 rfl ?_
      refine bx_icmp_ge_t (pc := 137) (tgt := 169) dX7_check_137 (by decide) (nI_le (by omega) (by omega)) ?_
      refine ex_iload (pc := 169) dX7_check_169 rfl ?_
      refine ex_iload_n (pc := 171) dX7_check_171 rfl ?_
      refine bx_icmp_ne_f (pc := 172) (tgt := 185) dX7_check_172 (by decide) (by rw [show k = c by omega]) ?_
      refine ex_iload (pc := 175) dX7_check_175 rfl ?_
      refine ex_iload_n (pc := 177) dX7_check_177 rfl ?_
      refine bx_icmp_ne_f (pc := 178) (tgt := 185) dX7_check_178 (by decide) (by rw [show k = due by omega]) ?_
      refine ex_iconst (pc := 181) (v := 0) dX7_check_181 (by decide) ?_
      refine ex_goto (pc := 182) (tgt := 189) dX7_check_182 (by decide) ?_
      refine ex_ret dX7_check_189 rfl ?_
      refine qi_mk ⟨rfl, ?_⟩
      rw [ckR, if_neg (by omega)]
      rfl
    · skip
      refine ex_iload (pc := 134) dX7_check_134 rfl ?_
      refine ex_iload_n (pc := 136) dX7_check_136 rfl ?_
      refine bx_icmp_ge_f (pc := 137) (tgt := 169) dX7_check_137 (by decide) (nI_ge (by omega) (by omega)) ?_
      refine ex_iload (pc := 140) dX7_check_140 rfl ?_
      refine ex_iload_n (pc := 142) dX7_check_142 rfl ?_
      refine bx_icmp_ge_t (pc := 143) (tgt := 169) dX7_check_143 (by decide) (nI_le (by omega) (by omega)) ?_
      refine ex_iload (pc := 169) dX7_check_169 rfl ?_
      refine ex_iload_n (pc := 171) dX7_check_171 rfl ?_
      refine bx_icmp_ne_t (pc := 172) (tgt := 185) dX7_check_172 (by decide) (fun z => absurd ((nI_eq (by omega) (by omega)).mp z) (by omega)) ?_
      refine ex_iconst (pc := 185) (v := (nI 1)) dX7_check_185 (by decide) ?_
      refine ex_iload (pc := 186) dX7_check_186 rfl ?_
      refine ex_iadd (pc := 188) dX7_check_188 ?_
      refine ex_ret dX7_check_189 rfl ?_
      refine qi_mk ⟨rfl, ?_⟩
      rw [ckR, if_pos (by omega), nI_add, show k = due by omega]
  | succ m ih =>
    intro k hkc hk
    by_cases hck : c ≤ k
    · skip
      refine ex_iload (pc := 134) dX7_check_134 rfl ?_
      refine ex_iload_n (pc := 136) dX7_check_136 rfl ?_
      refine bx_icmp_ge_t (pc := 137) (tgt := 169) dX7_check_137 (by decide) (nI_le (by omega) (by omega)) ?_
      refine ex_iload (pc := 169) dX7_check_169 rfl ?_
      refine ex_iload_n (pc := 171) dX7_check_171 rfl ?_
      refine bx_icmp_ne_f (pc := 172) (tgt := 185) dX7_check_172 (by decide) (by rw [show k = c by omega]) ?_
      refine ex_iload (pc := 175) dX7_check_175 rfl ?_
      refine ex_iload_n (pc := 177) dX7_check_177 rfl ?_
      refine bx_icmp_ne_t (pc := 178) (tgt := 185) dX7_check_178 (by decide) (fun z => absurd ((nI_eq (by omega) (by omega)).mp z) (by omega)) ?_
      refine ex_iconst (pc := 185) (v := (nI 1)) dX7_check_185 (by decide) ?_
      refine ex_iload (pc := 186) dX7_check_186 rfl ?_
      refine ex_iadd (pc := 188) dX7_check_188 ?_
      refine ex_ret dX7_check_189 rfl ?_
      refine qi_mk ⟨rfl, ?_⟩
      rw [ckR, if_pos (Or.inl (by omega)), nI_add]
    · skip
      refine ex_iload (pc := 134) dX7_check_134 rfl ?_
      refine ex_iload_n (pc := 136) dX7_check_136 rfl ?_
      refine bx_icmp_ge_f (pc := 137) (tgt := 169) dX7_check_137 (by decide) (nI_ge (by omega) (by omega)) ?_
      refine ex_iload (pc := 140) dX7_check_140 rfl ?_
      refine ex_iload_n (pc := 142) dX7_check_142 rfl ?_
      refine bx_icmp_ge_f (pc := 143) (tgt := 169) dX7_check_143 (by decide) (nI_ge (by omega) (by omega)) ?_
      refine ex_aload_n (pc := 146) dX7_check_146 rfl ?_
      refine ex_get (pc := 147) dX7_check_147 fl_X7_62 hM rfl ?_
      refine ex_iload (pc := 150) dX7_check_150 rfl ?_
      refine ex_ildn (k := k) (pc := 152) dX7_check_152 h93 rfl (by omega) (by decide) ?_
      refine ex_aload_n (pc := 153) dX7_check_153 rfl ?_
      refine ex_get (pc := 154) dX7_check_154 fl_X7_65 hM rfl ?_
      refine ex_iload (pc := 157) dX7_check_157 rfl ?_
      refine ex_ildn (k := k) (pc := 159) dX7_check_159 h94 rfl (by omega) (by decide) ?_
      refine ex_icmp_ne (pc := 160) (tgt := 169) dX7_check_160 (by decide) (fun c_160 => ?_) (fun c_160 => ?_)
      · skip
        refine ex_iload (pc := 169) dX7_check_169 rfl ?_
        refine ex_iload_n (pc := 171) dX7_check_171 rfl ?_
        refine bx_icmp_ne_t (pc := 172) (tgt := 185) dX7_check_172 (by decide) (fun z => absurd ((nI_eq (by omega) (by omega)).mp z) (by omega)) ?_
        refine ex_iconst (pc := 185) (v := (nI 1)) dX7_check_185 (by decide) ?_
        refine ex_iload (pc := 186) dX7_check_186 rfl ?_
        refine ex_iadd (pc := 188) dX7_check_188 ?_
        refine ex_ret dX7_check_189 rfl ?_
        refine qi_mk ⟨rfl, ?_⟩
        rw [ckR, if_pos (Or.inr (by rw [← hfd k (by omega)]; exact c_160)), nI_add]
      · skip
        first | refine sx_inc (pc := 163) dX7_check_163 rfl rfl (by decide) ?_ | refine sx_iinc (pc := 163) dX7_check_163 rfl rfl (by decide) ?_
        show Ex _ _ _ _ _ _ [_, _, _, _, _] _ _ _
        refine ex_goto (pc := 166) (tgt := 134) dX7_check_166 (by decide) ?_
        refine (ih (k + 1) (by omega) (by omega)).mono (fun h' r a => ?_)
        obtain ⟨x, e, a1, a2⟩ := a
        exact ⟨x, e, a1, by rw [a2, ckR, if_neg (fun z => z.elim (fun q => by omega) (fun q => q (by rw [← hfd k (by omega)]; exact c_160)))]⟩
set_option maxHeartbeats 4000000 in
set_option maxRecDepth 100000 in
theorem c_M_check_1 {g : Gl} {d ks : Nat} {h : AH} {z s : Nat → Int32} {n nt : Nat} (hR : MR g h z s n nt) {im wf f78 : Nat → Int32} {ni nti c M N hr : Nat} (hN : N ≤ 30) (hM : M = min N (9999 - hr)) (hr9 : hr ≤ 9999) {u : Nat → Int32} (hu : u = bkF im s 2890) (ehr : u 2 = nI hr) (hok : HOk u ni) (hc : c ≤ 60) (h93 : h[93]? = some (ia g 60 wf)) (hd : 8 ≤ d) : ∀ (m i : Nat) (h1 : AH), MR g h1 z (hrsS u nti ni i) ni nti → MT g h1 → FrX mtX g h h1 → h1[78]? = some (ia g 3090 (bkF s f78 2890)) → ∀ (fd : Nat → Int32), h1[94]? = some (ia g 60 fd) → (∀ k, k < 2 * i → fd k = ckV u ni nti k) → i + m = M → Ex g mX7_check d 0 ks 64 [some (.ref (g.1 + 75)), some (.int (nI N)), some (.int (nI c)), some (.int (nI (2 * (i)))), some (.int (nI (i)))] [] h1 (qi (fun h' r => (MR g h' z s n nt ∧ MT g h' ∧ FrX mtX g h h') ∧ r = ckR u ni nti wf c (2 * M) (2 * M) 0)) := by
  intro m
  induction m with
  | zero =>
    intro i h1 hR1 hT1 hF h78 fd h94 hfd hi
    subst hu
    by_cases hNM : N ≤ i
    · skip
      refine ex_iload (pc := 64) dX7_check_64 rfl ?_
      refine ex_iload_n (pc := 66) dX7_check_66 rfl ?_
      refine bx_icmp_ge_t (pc := 67) (tgt := 119) dX7_check_67 (by decide) (nI_le (by omega) (by omega)) ?_
      refine ex_aload_n (pc := 119) dX7_check_119 rfl ?_
      refine ex_aload_n (pc := 120) dX7_check_120 rfl ?_
      refine ex_get (pc := 121) dX7_check_121 fl_X7_16 hR1.1.1 rfl ?_
      refine ex_aload_n (pc := 124) dX7_check_124 rfl ?_
      refine ex_get (pc := 125) dX7_check_125 fl_X7_7 hR1.1.1 rfl ?_
      refine cx_VL2v (pc := 128) dX7_check_128 lk_X7_396 hR1.1.1 rfl (Nat.le_of_ble_eq_true rfl) (Nat.le_of_ble_eq_true rfl) (by omega) (c_M_setAside (q0 := 78) (q1 := 76) (by omega) (by omega) h78 hR1.1.2) (fun h_128 q_128 => ?_)
      obtain ⟨m1, m2⟩ := q_128
      rw [bk_bk (hrs_ok hok i).2] at m1
      have F3 : FrX mtX g h h_128 := hF.tr (m2.mono (fun k hk => Or.inl hk))
      have hR3 : MR g h_128 z s n nt := hR.re F3 ⟨m2.at (by decide) (nscr (by omega)) hR1.1.1, m1⟩
      have hT3 : MT g h_128 := by
        obtain ⟨⟨x1, y1⟩, ⟨x2, y2⟩, ⟨x3, y3⟩, ⟨x4, y4⟩, x5, y5⟩ := hT1
        exact ⟨⟨x1, m2.at (by decide) (nscr (by omega)) y1⟩, ⟨x2, m2.at (by decide) (nscr (by omega)) y2⟩, ⟨x3, m2.at (by decide) (nscr (by omega)) y3⟩, ⟨x4, m2.at (by decide) (by unfold scr; omega) y4⟩, x5, m2.at (by decide) (by unfold scr; omega) y5⟩
      refine ex_iconst (pc := 131) (v := (nI 0)) dX7_check_131 (by decide) ?_
      refine sx_istore (pc := 132) dX7_check_132 rfl (by decide) ?_
      show Ex _ _ _ _ _ _ [_, _, _, _, _] _ _ _
      obtain rfl : i = M := by omega
      refine (c_M_check_2 (N := nI N) hR3.1.1 (F3.at (by unfold mtX; omega) (by unfold scr; omega) h93) (m2.at (by decide) (by unfold scr; omega) h94) hc (by omega) hfd (2 * i) 0 (by omega) (by omega)).mono (fun h' r a => ?_)
      obtain ⟨x, e, a1, a2⟩ := a
      rw [a1]
      exact ⟨x, e, ⟨hR3, hT3, F3⟩, a2⟩
    · skip
      refine ex_iload (pc := 64) dX7_check_64 rfl ?_
      refine ex_iload_n (pc := 66) dX7_check_66 rfl ?_
      refine bx_icmp_ge_f (pc := 67) (tgt := 119) dX7_check_67 (by decide) (nI_ge (by omega) (by omega)) ?_
      refine ex_aload_n (pc := 70) dX7_check_70 rfl ?_
      refine ex_get (pc := 71) dX7_check_71 fl_X7_7 hR1.1.1 rfl ?_
      refine ex_iconst (pc := 74) (v := (nI 2)) dX7_check_74 (by decide) ?_
      refine ex_ildn (k := 2) (pc := 75) dX7_check_75 hR1.1.2 rfl (by decide) (by decide) ?_
      rw [hrs_2 i hr ehr]
      refine ex_sipush (pc := 76) (v := (nI 9999)) dX7_check_76 (by decide) ?_
      refine bx_icmp_ge_t (pc := 79) (tgt := 119) dX7_check_79 (by decide) (nI_le (by omega) (by omega)) ?_
      refine ex_aload_n (pc := 119) dX7_check_119 rfl ?_
      refine ex_aload_n (pc := 120) dX7_check_120 rfl ?_
      refine ex_get (pc := 121) dX7_check_121 fl_X7_16 hR1.1.1 rfl ?_
      refine ex_aload_n (pc := 124) dX7_check_124 rfl ?_
      refine ex_get (pc := 125) dX7_check_125 fl_X7_7 hR1.1.1 rfl ?_
      refine cx_VL2v (pc := 128) dX7_check_128 lk_X7_396 hR1.1.1 rfl (Nat.le_of_ble_eq_true rfl) (Nat.le_of_ble_eq_true rfl) (by omega) (c_M_setAside (q0 := 78) (q1 := 76) (by omega) (by omega) h78 hR1.1.2) (fun h_128 q_128 => ?_)
      obtain ⟨m1, m2⟩ := q_128
      rw [bk_bk (hrs_ok hok i).2] at m1
      have F3 : FrX mtX g h h_128 := hF.tr (m2.mono (fun k hk => Or.inl hk))
      have hR3 : MR g h_128 z s n nt := hR.re F3 ⟨m2.at (by decide) (nscr (by omega)) hR1.1.1, m1⟩
      have hT3 : MT g h_128 := by
        obtain ⟨⟨x1, y1⟩, ⟨x2, y2⟩, ⟨x3, y3⟩, ⟨x4, y4⟩, x5, y5⟩ := hT1
        exact ⟨⟨x1, m2.at (by decide) (nscr (by omega)) y1⟩, ⟨x2, m2.at (by decide) (nscr (by omega)) y2⟩, ⟨x3, m2.at (by decide) (nscr (by omega)) y3⟩, ⟨x4, m2.at (by decide) (by unfold scr; omega) y4⟩, x5, m2.at (by decide) (by unfold scr; omega) y5⟩
      refine ex_iconst (pc := 131) (v := (nI 0)) dX7_check_131 (by decide) ?_
      refine sx_istore (pc := 132) dX7_check_132 rfl (by decide) ?_
      show Ex _ _ _ _ _ _ [_, _, _, _, _] _ _ _
      obtain rfl : i = M := by omega
      refine (c_M_check_2 (N := nI N) hR3.1.1 (F3.at (by unfold mtX; omega) (by unfold scr; omega) h93) (m2.at (by decide) (by unfold scr; omega) h94) hc (by omega) hfd (2 * i) 0 (by omega) (by omega)).mono (fun h' r a => ?_)
      obtain ⟨x, e, a1, a2⟩ := a
      rw [a1]
      exact ⟨x, e, ⟨hR3, hT3, F3⟩, a2⟩
  | succ m ih =>
    intro i h1 hR1 hT1 hF h78 fd h94 hfd hi
    refine ex_iload (pc := 64) dX7_check_64 rfl ?_
    refine ex_iload_n (pc := 66) dX7_check_66 rfl ?_
    refine bx_icmp_ge_f (pc := 67) (tgt := 119) dX7_check_67 (by decide) (nI_ge (by omega) (by omega)) ?_
    refine ex_aload_n (pc := 70) dX7_check_70 rfl ?_
    refine ex_get (pc := 71) dX7_check_71 fl_X7_7 hR1.1.1 rfl ?_
    refine ex_iconst (pc := 74) (v := (nI 2)) dX7_check_74 (by decide) ?_
    refine ex_ildn (k := 2) (pc := 75) dX7_check_75 hR1.1.2 rfl (by decide) (by decide) ?_
    rw [hrs_2 i hr ehr]
    refine ex_sipush (pc := 76) (v := (nI 9999)) dX7_check_76 (by decide) ?_
    refine bx_icmp_ge_f (pc := 79) (tgt := 119) dX7_check_79 (by decide) (nI_ge (by omega) (by omega)) ?_
    refine ex_aload_n (pc := 82) dX7_check_82 rfl ?_
    refine cx_VL0v (pc := 83) dX7_check_83 lk_X7_237 hR1.1.1 rfl (Nat.le_of_ble_eq_true rfl) (Nat.le_of_ble_eq_true rfl) (by omega) (c_M_goesOn hR1 (hrs_ok hok i).1 (by omega)) (fun h_83 q_83 => ?_)
    obtain ⟨r4, u4⟩ := q_83
    have ehs : hrS (hrsS u nti ni i) nti ni = hrsS u nti ni (i + 1) := rfl
    rw [ehs] at r4
    refine ex_aload_n (pc := 86) dX7_check_86 rfl ?_
    refine ex_get (pc := 87) dX7_check_87 fl_X7_65 r4.1.1 rfl ?_
    refine ex_iload_n (pc := 90) dX7_check_90 rfl ?_
    refine ex_aload_n (pc := 91) dX7_check_91 rfl ?_
    refine ex_get (pc := 92) dX7_check_92 fl_X7_7 r4.1.1 rfl ?_
    refine ex_iconst (pc := 95) (v := (nI 5)) dX7_check_95 (by decide) ?_
    refine ex_ildn (k := 5) (pc := 96) dX7_check_96 r4.1.2 rfl (by decide) (by decide) ?_
    refine ex_istn (k := 2 * i) (pc := 97) dX7_check_97 (u4.at (by unfold mX; omega) (by unfold scr; omega) h94) rfl (by omega) (by decide) ?_
    have hM5 : Ms g (h_83.set 94 (ia g 60 (upd fd (2 * i) (hrsS u nti ni (i + 1) 5)))) z (hrsS u nti ni (i + 1)) := ⟨gs_ne (by decide) r4.1.1, gs_ne (by decide) r4.1.2⟩
    refine ex_aload_n (pc := 98) dX7_check_98 rfl ?_
    refine ex_get (pc := 99) dX7_check_99 fl_X7_65 hM5.1 rfl ?_
    refine ex_iload_n (pc := 102) dX7_check_102 rfl ?_
    refine ex_iconst (pc := 103) (v := (nI 1)) dX7_check_103 (by decide) ?_
    skip
    refine ex_iadd (pc := 104) dX7_check_104 ?_
    refine ex_aload_n (pc := 105) dX7_check_105 rfl ?_
    refine cx_VL0i (pc := 106) dX7_check_106 lk_X7_244 hM5.1 rfl (Nat.le_of_ble_eq_true rfl) (Nat.le_of_ble_eq_true rfl) (by omega) (c_M_tiredOfAll hM5 r4.2.1.1 r4.2.1.2.1 (by omega)) (fun h_106 x_106 q_106 => ?_)
    obtain ⟨e_106, f_106⟩ := q_106
    rw [e_106, f_106]
    rw [nI_add]
    refine ex_istn (k := 2 * i + 1) (pc := 109) dX7_check_109 (gs_eq (u4.at (by unfold mX; omega) (by unfold scr; omega) h94)) rfl (by omega) (by decide) ?_
    simp only [List.set_set]
    refine sx_iinc (pc := 110) dX7_check_110 rfl rfl (by decide) ?_
    show Ex _ _ _ _ _ _ [_, _, _, _, _] _ _ _
    rw [show nI (2 * i) + Int32.ofInt 2 = nI (2 * (i + 1)) from (nI_add (2 * i) 2)]
    first | refine sx_inc (pc := 113) dX7_check_113 rfl rfl (by decide) ?_ | refine sx_iinc (pc := 113) dX7_check_113 rfl rfl (by decide) ?_
    show Ex _ _ _ _ _ _ [_, _, _, _, _] _ _ _
    refine ex_goto (pc := 116) (tgt := 64) dX7_check_116 (by decide) ?_
    have FF : FrX mtX g h_83 (h_83.set 94 (ia g 60 (upd (upd fd (2 * i) (hrsS u nti ni (i + 1) 5)) (2 * i + 1) (trd (hrsS u nti ni (i + 1)) ni)))) := FrX.st (by unfold mtX; omega) (by unfold scr; omega)
    have FG : FrX (fun x => x = 94) g h_83 (h_83.set 94 (ia g 60 (upd (upd fd (2 * i) (hrsS u nti ni (i + 1) 5)) (2 * i + 1) (trd (hrsS u nti ni (i + 1)) ni)))) := FrX.st rfl (by unfold scr; omega)
    have h94b : (h_83.set 94 (ia g 60 (upd (upd fd (2 * i) (hrsS u nti ni (i + 1) 5)) (2 * i + 1) (trd (hrsS u nti ni (i + 1)) ni))))[94]? = some (ia g 60 (upd (upd fd (2 * i) (hrsS u nti ni (i + 1) 5)) (2 * i + 1) (trd (hrsS u nti ni (i + 1)) ni))) := gs_eq (u4.at (by unfold mX; omega) (by unfold scr; omega) h94)
    refine ih (i + 1) _ (r4.fr FG (by decide) (by decide)) ?_ ((hF.tr (mX_mt u4 (ms_75 hR1.1 r4.1))).tr FF) ?_ (upd (upd fd (2 * i) (hrsS u nti ni (i + 1) 5)) (2 * i + 1) (trd (hrsS u nti ni (i + 1)) ni)) h94b (fun k hk => ?_) (by omega)
    · obtain ⟨⟨x1, y1⟩, ⟨x2, y2⟩, ⟨x3, y3⟩, ⟨x4, y4⟩, -⟩ := hT1
      exact ⟨⟨x1, gs_ne (by decide) (u4.at (by unfold mX; omega) (nscr (by omega)) y1)⟩, ⟨x2, gs_ne (by decide) (u4.at (by unfold mX; omega) (nscr (by omega)) y2)⟩, ⟨x3, gs_ne (by decide) (u4.at (by unfold mX; omega) (nscr (by omega)) y3)⟩, ⟨x4, gs_ne (by decide) (u4.at (by unfold mX; omega) (by unfold scr; omega) y4)⟩, _, h94b⟩
    · exact gs_ne (by decide) (u4.at (by unfold mX; omega) (nscr (by omega)) h78)
    · by_cases e1 : k = 2 * i + 1
      · rw [e1, upd_eq]
        unfold ckV
        rw [if_neg (by omega), show (2 * i + 1) / 2 = i by omega]
      · rw [upd_ne e1]
        by_cases e2 : k = 2 * i
        · rw [e2, upd_eq]
          unfold ckV
          rw [if_pos (by omega), show 2 * i / 2 = i by omega]
        · rw [upd_ne e2]; exact hfd k (by omega)

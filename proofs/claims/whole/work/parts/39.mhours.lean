/-! hours of the reference -/
def mX (k : Nat) : Prop := k = 75 ∨ k = 76
theorem FrX.ms {g : Gl} {h : AH} {c : va_E} : FrX mX g h (h.set 76 c) := FrX.st (Or.inr rfl) (nscr (by omega))
theorem Ms.st {g : Gl} {h : AH} {z s : Nat → Int32} (hM : Ms g h z s) (s' : Nat → Int32) : Ms g (h.set 76 (ia g 3090 s')) z s' := ⟨gs_ne (by decide) hM.1, gs_eq hM.2⟩
set_option maxHeartbeats 4000000 in
set_option maxRecDepth 100000 in
theorem c_M_goesOn_e {g : Gl} {d ks : Nat} {h : AH} {z s : Nat → Int32} (hM : Ms g h z s) (o1 : Option Value) : Ex g mX7_goesOn d 0 ks 154 [some (.ref (g.1 + 75)), o1] [] h (qv (fun h' => Ms g h' z (upd s 2 (s 2 + nI 1)) ∧ FrX mX g h h')) := by
  refine ex_aload_n (pc := 154) dX7_goesOn_154 rfl ?_
  refine ex_get (pc := 155) dX7_goesOn_155 fl_X7_7 hM.1 rfl ?_
  refine ex_iconst (pc := 158) (v := (nI 2)) dX7_goesOn_158 (by decide) ?_
  refine ex_dup2 (pc := 159) dX7_goesOn_159 rfl rfl ?_
  refine ex_ildn (k := 2) (pc := 160) dX7_goesOn_160 hM.2 (by first | rfl | (simp only [nI_add, nI_mul]; done) | (simp only [nI_add, nI_mul]; rfl)) (by omega) (by decide) ?_
  refine ex_iconst (pc := 161) (v := (nI 1)) dX7_goesOn_161 (by decide) ?_
  refine ex_iadd (pc := 162) dX7_goesOn_162 ?_
  refine ex_istn (k := 2) (pc := 163) dX7_goesOn_163 hM.2 (by first | rfl | (simp only [nI_add, nI_mul]; done) | (simp only [nI_add, nI_mul]; rfl)) (by omega) (by decide) ?_
  refine ex_vret dX7_goesOn_164 rfl ?_
  exact qv_mk ⟨hM.st _, FrX.ms⟩
theorem Ms.st' {g : Gl} {h : AH} {z s t : Nat → Int32} (hM : Ms g (h.set 76 (ia g 3090 t)) z s) (s' : Nat → Int32) : Ms g (h.set 76 (ia g 3090 s')) z s' := by
  have q := hM.st s'
  rw [List.set_set] at q
  exact q
set_option maxHeartbeats 4000000 in
set_option maxRecDepth 100000 in
theorem c_M_goesOn_t {g : Gl} {d ks : Nat} {h : AH} {z t : Nat → Int32} (hM : Ms g h z t) (hd : 1 ≤ d) {n : Nat} (hP : POk t n) (o1 : Option Value) : Ex g mX7_goesOn d 0 ks 101 [some (.ref (g.1 + 75)), o1] [] h (qv (fun h' => Ms g h' z (upd (trnS t n) 2 ((trnS t n) 2 + nI 1)) ∧ FrX mX g h h')) := by
  have hn8 := hP.2.1
  have hM1 : Ms g (h.set 76 (ia g 3090 (upd t 9 (drw (t 9))))) z (upd t 9 (drw (t 9))) := hM.st _
  have hM2 : Ms g (h.set 76 (ia g 3090 (upd (upd t 9 (drw (t 9))) 9 (drw ((upd t 9 (drw (t 9))) 9))))) z (upd (upd t 9 (drw (t 9))) 9 (drw ((upd t 9 (drw (t 9))) 9))) := hM.st _
  refine ex_aload_n (pc := 101) dX7_goesOn_101 rfl ?_
  refine cx_VL0i (pc := 102) dX7_goesOn_102 lk_X7_202 hM.1 rfl (Nat.le_of_ble_eq_true rfl) (Nat.le_of_ble_eq_true rfl) (by omega) (c_M_drawn hM) (fun h_102 x_102 q_102 => ?_)
  obtain ⟨e_102, rfl⟩ := q_102
  rw [e_102]
  refine ex_bipush (pc := 105) (v := (nI 100)) dX7_goesOn_105 (by decide) ?_
  refine ex_irem (pc := 107) dX7_goesOn_107 (by decide) ?_
  refine ex_aload_n (pc := 108) dX7_goesOn_108 rfl ?_
  refine ex_get (pc := 109) dX7_goesOn_109 fl_X7_7 hM1.1 rfl ?_
  refine ex_iconst (pc := 112) (v := (nI 4)) dX7_goesOn_112 (by decide) ?_
  refine ex_ildn (k := 4) (pc := 113) dX7_goesOn_113 hM1.2 (by first | rfl | (simp only [nI_add, nI_mul]; done) | (simp only [nI_add, nI_mul]; rfl)) (by omega) (by decide) ?_
  rw [show (upd t 9 (drw (t 9))) 4 = t 4 from upd_ne (by decide)]
  refine ex_icmp_ge (pc := 114) (tgt := 154) dX7_goesOn_114 (by decide) (fun c_114 => ?_) (fun c_114 => ?_)
  · skip
    rw [trn_no (fun q => absurd q.1 (Int32.not_lt.mpr c_114))]
    exact (c_M_goesOn_e hM1 _).mono (fun h' r q => by obtain ⟨rfl, q1, q2⟩ := q; exact qv_mk ⟨q1, FrX.ms.tr q2⟩)
  · skip
    refine ex_aload_n (pc := 117) dX7_goesOn_117 rfl ?_
    refine ex_get (pc := 118) dX7_goesOn_118 fl_X7_7 hM1.1 rfl ?_
    refine ex_iconst (pc := 121) (v := (nI 0)) dX7_goesOn_121 (by decide) ?_
    refine ex_ildn (k := 0) (pc := 122) dX7_goesOn_122 hM1.2 (by first | rfl | (simp only [nI_add, nI_mul]; done) | (simp only [nI_add, nI_mul]; rfl)) (by omega) (by decide) ?_
    rw [show (upd t 9 (drw (t 9))) 0 = t 0 from upd_ne (by decide), hP.1]
    refine ex_if_le (pc := 123) (tgt := 154) dX7_goesOn_123 (by decide) (fun c_123 => ?_) (fun c_123 => ?_)
    · skip
      rw [trn_no (fun q => absurd c_123 (nI_lt0' q.2 (by omega)))]
      exact (c_M_goesOn_e hM1 _).mono (fun h' r q => by obtain ⟨rfl, q1, q2⟩ := q; exact qv_mk ⟨q1, FrX.ms.tr q2⟩)
    · skip
      have hnp : 0 < n := nI_lt0 c_123
      have hn0 : ¬ nI n = 0 := nI_ne0 hnp (by omega)
      have hkk : (dN (drS t 9) % n) < n := Nat.mod_lt _ hnp
      refine ex_aload_n (pc := 126) dX7_goesOn_126 rfl ?_
      refine cx_VL0i (pc := 127) dX7_goesOn_127 lk_X7_202 hM1.1 rfl (Nat.le_of_ble_eq_true rfl) (Nat.le_of_ble_eq_true rfl) (by omega) (c_M_drawn hM1) (fun h_127 x_127 q_127 => ?_)
      obtain ⟨e_127, rfl⟩ := q_127
      rw [e_127]
      rw [List.set_set]
      refine ex_aload_n (pc := 130) dX7_goesOn_130 rfl ?_
      refine ex_get (pc := 131) dX7_goesOn_131 fl_X7_7 hM2.1 rfl ?_
      refine ex_iconst (pc := 134) (v := (nI 0)) dX7_goesOn_134 (by decide) ?_
      refine ex_ildn (k := 0) (pc := 135) dX7_goesOn_135 hM2.2 (by first | rfl | (simp only [nI_add, nI_mul]; done) | (simp only [nI_add, nI_mul]; rfl)) (by omega) (by decide) ?_
      rw [show (upd (upd t 9 (drw (t 9))) 9 (drw ((upd t 9 (drw (t 9))) 9))) 0 = nI n from ((upd_ne (by decide)).trans (upd_ne (by decide))).trans hP.1]
      refine ex_irem (pc := 136) dX7_goesOn_136 hn0 ?_
      rw [drv_rem _ hnp (by omega)]
      refine sx_istore_n (pc := 137) dX7_goesOn_137 rfl (by decide) ?_
      show Ex _ _ _ _ _ _ [_, _] _ _ _
      refine ex_aload_n (pc := 138) dX7_goesOn_138 rfl ?_
      refine ex_iload_n (pc := 139) dX7_goesOn_139 rfl ?_
      refine ex_iconst (pc := 140) (v := (nI 2)) dX7_goesOn_140 (by decide) ?_
      refine ex_aload_n (pc := 141) dX7_goesOn_141 rfl ?_
      refine ex_iload_n (pc := 142) dX7_goesOn_142 rfl ?_
      refine ex_iconst (pc := 143) (v := (nI 2)) dX7_goesOn_143 (by decide) ?_
      refine cx_VL2i (pc := 144) dX7_goesOn_144 lk_X7_76 hM2.1 rfl (Nat.le_of_ble_eq_true rfl) (Nat.le_of_ble_eq_true rfl) (by omega) (c_M_of hM2 (k := (dN (drS t 9) % n)) (f := 2) (by omega)) (fun h_144 x_144 q_144 => ?_)
      obtain ⟨e_144, f_144⟩ := q_144
      rw [e_144, f_144]
      refine ex_iconst (pc := 147) (v := (nI 1)) dX7_goesOn_147 (by decide) ?_
      refine ex_iadd (pc := 148) dX7_goesOn_148 ?_
      rw [show (upd (upd t 9 (drw (t 9))) 9 (drw ((upd t 9 (drw (t 9))) 9))) (10 + 4 * (dN (drS t 9) % n) + 2) = t (10 + 4 * (dN (drS t 9) % n) + 2) from (upd_ne (by omega)).trans (upd_ne (by omega))]
      refine ex_iconst (pc := 149) (v := (nI 4)) dX7_goesOn_149 (by decide) ?_
      refine ex_irem (pc := 150) dX7_goesOn_150 (by decide) ?_
      refine cx_VL3v (pc := 151) dX7_goesOn_151 lk_X7_150 hM2.1 rfl (Nat.le_of_ble_eq_true rfl) (Nat.le_of_ble_eq_true rfl) (by omega) (c_M_sets hM2 (k := (dN (drS t 9) % n)) (f := 2) (by omega) _) (fun h_151 q_151 => ?_)
      rw [q_151]
      rw [List.set_set]
      rw [trn_go ⟨Int32.not_le.mp c_114, hnp⟩]
      exact (c_M_goesOn_e (hM2.st' _) _).mono (fun h' r q => by obtain ⟨rfl, q1, q2⟩ := q; exact qv_mk ⟨q1, FrX.ms.tr q2⟩)
set_option maxHeartbeats 4000000 in
set_option maxRecDepth 100000 in
theorem c_M_goesOn_l {g : Gl} {d ks : Nat} {h : AH} {z t : Nat → Int32} (hd : 2 ≤ d) {n : Nat} (hO : HOk t n) : ∀ (m k : Nat) (h1 : AH), Ms g h1 z (tirS t k) → FrX mX g h h1 → k + m = n → Ex g mX7_goesOn d 0 ks 53 [some (.ref (g.1 + 75)), some (.int (nI k))] [] h1 (qv (fun h' => Ms g h' z (upd (trnS (tirS t n) n) 2 ((trnS (tirS t n) n) 2 + nI 1)) ∧ FrX mX g h h')) := by
  have hn8 := hO.1.2.1
  have hPk : ∀ k, k ≤ 8 → POk (tirS t k) n := fun k hk => (tir_ok hO k hk).1.1
  intro m
  induction m with
  | zero =>
    intro k h1 hM1 hF hk
    have hN := (hPk k (by omega)).1
    refine ex_iload_n (pc := 53) dX7_goesOn_53 rfl ?_
    refine ex_aload_n (pc := 54) dX7_goesOn_54 rfl ?_
    refine ex_get (pc := 55) dX7_goesOn_55 fl_X7_7 hM1.1 rfl ?_
    refine ex_iconst (pc := 58) (v := (nI 0)) dX7_goesOn_58 (by decide) ?_
    refine ex_ildn (k := 0) (pc := 59) dX7_goesOn_59 hM1.2 (by first | rfl | (simp only [nI_add, nI_mul]; done) | (simp only [nI_add, nI_mul]; rfl)) (by omega) (by decide) ?_
    refine bx_icmp_ge_t (pc := 60) (tgt := 101) dX7_goesOn_60 (by decide) (by rw [hN, show k = n by omega]; exact Int32.le_refl _) ?_
    obtain rfl : k = n := by omega
    exact (c_M_goesOn_t hM1 (by omega) (hPk k (by omega)) _).mono (fun h' r q => by obtain ⟨rfl, q1, q2⟩ := q; exact qv_mk ⟨q1, hF.tr q2⟩)
  | succ m ih =>
    intro k h1 hM1 hF hk
    have hN := (hPk k (by omega)).1
    have fin : Ex g mX7_goesOn d 0 ks 53 [some (.ref (g.1 + 75)), some (.int (nI (k + 1)))] [] (h1.set 76 (ia g 3090 (upd (tirS t k) (10 + 4 * k + 3) (hld ((tirS t k) (10 + 4 * k + 3) + (if awS (tirS t k) k then nI 5 else -20)) (nI 99))))) (qv (fun h' => Ms g h' z (upd (trnS (tirS t n) n) 2 ((trnS (tirS t n) n) 2 + nI 1)) ∧ FrX mX g h h')) :=
      ih (k + 1) _ (hM1.st _) (hF.tr FrX.ms) (by omega)
    clear ih
    refine ex_iload_n (pc := 53) dX7_goesOn_53 rfl ?_
    refine ex_aload_n (pc := 54) dX7_goesOn_54 rfl ?_
    refine ex_get (pc := 55) dX7_goesOn_55 fl_X7_7 hM1.1 rfl ?_
    refine ex_iconst (pc := 58) (v := (nI 0)) dX7_goesOn_58 (by decide) ?_
    refine ex_ildn (k := 0) (pc := 59) dX7_goesOn_59 hM1.2 (by first | rfl | (simp only [nI_add, nI_mul]; done) | (simp only [nI_add, nI_mul]; rfl)) (by omega) (by decide) ?_
    refine bx_icmp_ge_f (pc := 60) (tgt := 101) dX7_goesOn_60 (by decide) (by rw [hN]; exact nI_ge (by omega) (by omega)) ?_
    refine ex_aload_n (pc := 63) dX7_goesOn_63 rfl ?_
    refine ex_iload_n (pc := 64) dX7_goesOn_64 rfl ?_
    refine ex_iconst (pc := 65) (v := (nI 3)) dX7_goesOn_65 (by decide) ?_
    refine ex_aload_n (pc := 66) dX7_goesOn_66 rfl ?_
    refine ex_iload_n (pc := 67) dX7_goesOn_67 rfl ?_
    refine ex_iconst (pc := 68) (v := (nI 3)) dX7_goesOn_68 (by decide) ?_
    refine cx_VL2i (pc := 69) dX7_goesOn_69 lk_X7_76 hM1.1 rfl (Nat.le_of_ble_eq_true rfl) (Nat.le_of_ble_eq_true rfl) (by omega) (c_M_of hM1 (k := k) (f := 3) (by omega)) (fun h_69 x_69 q_69 => ?_)
    obtain ⟨e_69, f_69⟩ := q_69
    rw [e_69, f_69]
    refine ex_aload_n (pc := 72) dX7_goesOn_72 rfl ?_
    refine ex_iload_n (pc := 73) dX7_goesOn_73 rfl ?_
    refine cx_VL1i (pc := 74) dX7_goesOn_74 lk_X7_136 hM1.1 rfl (Nat.le_of_ble_eq_true rfl) (Nat.le_of_ble_eq_true rfl) (by omega) (c_M_isAwake hM1 (by omega) (show k < 8 by omega)) (fun h_74 x_74 q_74 => ?_)
    obtain ⟨e_74, f_74⟩ := q_74
    rw [e_74, f_74]
    refine ex_if_eq (pc := 77) (tgt := 84) dX7_goesOn_77 (by decide) (fun c_77 => ?_) (fun c_77 => ?_)
    · skip
      refine ex_bipush (pc := 84) (v := (-20)) dX7_goesOn_84 (by decide) ?_
      refine ex_iadd (pc := 86) dX7_goesOn_86 ?_
      refine ex_bipush (pc := 87) (v := (nI 99)) dX7_goesOn_87 (by decide) ?_
      refine cx_SL2i (pc := 89) dX7_goesOn_89 lk_X7_94 rfl (Nat.le_of_ble_eq_true rfl) (Nat.le_of_ble_eq_true rfl) (by omega) (c_M_within _ _) (fun h_89 x_89 q_89 => ?_)
      obtain ⟨e_89, f_89⟩ := q_89
      rw [e_89, f_89]
      rw [wth_hld]
      refine cx_VL3v (pc := 92) dX7_goesOn_92 lk_X7_150 hM1.1 rfl (Nat.le_of_ble_eq_true rfl) (Nat.le_of_ble_eq_true rfl) (by omega) (c_M_sets hM1 (k := k) (f := 3) (by omega) _) (fun h_92 q_92 => ?_)
      rw [q_92]
      first | refine sx_inc (pc := 95) dX7_goesOn_95 rfl rfl (by decide) ?_ | refine sx_iinc (pc := 95) dX7_goesOn_95 rfl rfl (by decide) ?_
      show Ex _ _ _ _ _ _ [_, _] _ _ _
      refine ex_goto (pc := 98) (tgt := 53) dX7_goesOn_98 (by decide) ?_
      first
      | (have ev : hld (tirS t k (10 + 4 * k + 3) + nI 5) (nI 99) = hld (tirS t k (10 + 4 * k + 3) + (if awS (tirS t k) k then nI 5 else -20)) (nI 99) := by rw [if_pos (show awS (tirS t k) k = true from Decidable.not_not.mp (fun q => c_77 (bI_f q)))]
         rw [ev]; exact fin)
      | (have ev : hld (tirS t k (10 + 4 * k + 3) + (-20)) (nI 99) = hld (tirS t k (10 + 4 * k + 3) + (if awS (tirS t k) k then nI 5 else -20)) (nI 99) := by rw [if_neg (show ¬ awS (tirS t k) k = true from bI_0.mp c_77)]
         rw [ev]; exact fin)
    · skip
      refine ex_iconst (pc := 80) (v := (nI 5)) dX7_goesOn_80 (by decide) ?_
      refine ex_goto (pc := 81) (tgt := 86) dX7_goesOn_81 (by decide) ?_
      refine ex_iadd (pc := 86) dX7_goesOn_86 ?_
      refine ex_bipush (pc := 87) (v := (nI 99)) dX7_goesOn_87 (by decide) ?_
      refine cx_SL2i (pc := 89) dX7_goesOn_89 lk_X7_94 rfl (Nat.le_of_ble_eq_true rfl) (Nat.le_of_ble_eq_true rfl) (by omega) (c_M_within _ _) (fun h_89 x_89 q_89 => ?_)
      obtain ⟨e_89, f_89⟩ := q_89
      rw [e_89, f_89]
      rw [wth_hld]
      refine cx_VL3v (pc := 92) dX7_goesOn_92 lk_X7_150 hM1.1 rfl (Nat.le_of_ble_eq_true rfl) (Nat.le_of_ble_eq_true rfl) (by omega) (c_M_sets hM1 (k := k) (f := 3) (by omega) _) (fun h_92 q_92 => ?_)
      rw [q_92]
      first | refine sx_inc (pc := 95) dX7_goesOn_95 rfl rfl (by decide) ?_ | refine sx_iinc (pc := 95) dX7_goesOn_95 rfl rfl (by decide) ?_
      show Ex _ _ _ _ _ _ [_, _] _ _ _
      refine ex_goto (pc := 98) (tgt := 53) dX7_goesOn_98 (by decide) ?_
      first
      | (have ev : hld (tirS t k (10 + 4 * k + 3) + nI 5) (nI 99) = hld (tirS t k (10 + 4 * k + 3) + (if awS (tirS t k) k then nI 5 else -20)) (nI 99) := by rw [if_pos (show awS (tirS t k) k = true from Decidable.not_not.mp (fun q => c_77 (bI_f q)))]
         rw [ev]; exact fin)
      | (have ev : hld (tirS t k (10 + 4 * k + 3) + (-20)) (nI 99) = hld (tirS t k (10 + 4 * k + 3) + (if awS (tirS t k) k then nI 5 else -20)) (nI 99) := by rw [if_neg (show ¬ awS (tirS t k) k = true from bI_0.mp c_77)]
         rw [ev]; exact fin)

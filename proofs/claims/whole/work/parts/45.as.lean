/-! a room becomes as another one -/
def rgX (b k : Nat) : Prop := b ≤ k ∧ k < b + 12
/-- the cells of a room, whatever they hold -/
def ShB (g : Gl) (h : AH) (b : Nat) : Prop := (∃ s0 w0, h[b]? = some (rmC g b s0 w0)) ∧ (∃ fp, h[b + 1]? = some (ra g 2 8 fp) ∧ ∀ i, i < 8 → fp i = some (g.1 + (b + 4 + i))) ∧ (∀ i, i < 8 → ∃ kd ce si ti, h[b + 4 + i]? = some (po kd ce si ti)) ∧ (∃ ft, h[b + 2]? = some (ra g 3 14 ft)) ∧ ∃ fl, h[b + 3]? = some (ia g 3 fl)
theorem CR.sh {g : Gl} {h : AH} {b n nt : Nat} {s : Nat → Int32} (a : CR g h b s n nt) : ShB g h b := by
  obtain ⟨⟨a1, a2, a3, a4, a6, a7⟩, -, -, ⟨ft, fl, tx, b4, b5, -, -⟩, -⟩ := a
  exact ⟨⟨_, _, a1⟩, a4, a7, ⟨ft, b4⟩, fl, b5⟩
/-- what the other room holds, cell by cell -/
def OtB (g : Gl) (h : AH) (o : Nat) (s : Nat → Int32) (n nt : Nat) (ft : Nat → Option Nat) (fl : Nat → Int32) (tx : Nat → Nat) : Prop := RoomB g h o s n ∧ h[o + 2]? = some (ra g 3 14 ft) ∧ h[o + 3]? = some (ia g 3 fl) ∧ (∀ t, t < nt → ft t = some (g.1 + (96 + 3 * tx t)) ∧ ∃ vs, h[96 + 3 * tx t]? = some (ob 5 vs)) ∧ s 1 = nI nt ∧ nt ≤ 14
theorem RoomB.fr {S : Nat → Prop} {g : Gl} {h h' : AH} {b n : Nat} {s : Nat → Int32} (a : RoomB g h b s n) (hb : b ≤ 25) (f : FrX S g h h') (hS : ∀ k, rgX b k → ¬ S k) : RoomB g h' b s n := by
  obtain ⟨a1, a2, a3, ⟨fp, a4, a5⟩, a6, a7⟩ := a
  refine ⟨f.at (hS _ (by unfold rgX; omega)) (nscr (by omega)) a1, a2, a3, ⟨fp, f.at (hS _ (by unfold rgX; omega)) (nscr (by omega)) a4, a5⟩, fun i hi => f.at (hS _ (by unfold rgX; omega)) (nscr (by omega)) (a6 i hi), fun i hi => ?_⟩
  obtain ⟨kd, ce, si, ti, e⟩ := a7 i hi
  exact ⟨kd, ce, si, ti, f.at (hS _ (by unfold rgX; omega)) (nscr (by omega)) e⟩
theorem OtB.fr {S : Nat → Prop} {g : Gl} {h h' : AH} {o n nt : Nat} {s : Nat → Int32} {ft : Nat → Option Nat} {fl : Nat → Int32} {tx : Nat → Nat} (a : OtB g h o s n nt ft fl tx) (ho : o ≤ 25) (f : FrX S g h h') (hS : ∀ k, rgX o k ∨ 95 ≤ k → ¬ S k) : OtB g h' o s n nt ft fl tx := by
  obtain ⟨a1, a2, a3, a4, a5⟩ := a
  refine ⟨a1.fr ho f (fun k hk => hS k (Or.inl hk)), f.at (hS _ (Or.inl (by unfold rgX; omega))) (nscr (by omega)) a2, f.at (hS _ (Or.inl (by unfold rgX; omega))) (nscr (by omega)) a3, fun t ht => ?_, a5⟩
  obtain ⟨e, vs, q⟩ := a4 t ht
  exact ⟨e, vs, f.at (hS _ (Or.inr (by omega))) (by unfold scr; omega) q⟩
theorem rg_ap {b o : Nat} (h : b + 12 ≤ o ∨ o + 12 ≤ b) (hb : b ≤ 25) : ∀ k, rgX o k ∨ 95 ≤ k → ¬ rgX b k := by
  intro k hk; unfold rgX at *; omega
theorem FrX.rg {g : Gl} {h : AH} {b k : Nat} {c : va_E} (hb : b ≤ 25) (hk : b ≤ k ∧ k < b + 12) : FrX (rgX b) g h (h.set k c) := FrX.st hk (nscr (by omega))
theorem rm_w {g : Gl} {b : Nat} {s : Nat → Int32} {w v : Int64} : ob 2 ([Value.ref (g.1 + (b + 1)), .int (s 0), .long w, .int (s 7), .int (s 3), .int (s 4), .int (s 5), .int (s 6), .int (s 2), .int (s 9), .ref (g.1 + (b + 2)), .int (s 1), .ref (g.1 + (b + 3))].set 2 (.long v)) = rmC g b s v := by simp [rmC]
set_option maxHeartbeats 4000000 in
set_option maxRecDepth 100000 in
theorem c_R_becomeAs_3 {g : Gl} {d ks : Nat} {h : AH} {b o n nt : Nat} {s : Nat → Int32} {ft : Nat → Option Nat} {fl : Nat → Int32} {tx : Nat → Nat} (hb : b ≤ 25) (ho : o ≤ 25) (hap : b + 12 ≤ o ∨ o + 12 ≤ b) : ∀ (m k : Nat) (h1 : AH), OtB g h1 o s n nt ft fl tx → RoomB g h1 b s n → ∀ (f2 : Nat → Option Nat), h1[b + 2]? = some (ra g 3 14 f2) → ∀ (f3 : Nat → Int32), h1[b + 3]? = some (ia g 3 f3) → (∀ j, j < k → f3 j = fl j) → FrX (rgX b) g h h1 → k + m = 3 → (∀ t, t < nt → f2 t = ft t) → Ex g mX2_becomeAs d 0 ks 141 [some (.ref (g.1 + b)), some (.ref (g.1 + o)), some (.int (nI k))] [] h1 (qv (fun h' => RoomB g h' b s n ∧ (∃ f2, h'[b + 2]? = some (ra g 3 14 f2) ∧ ∀ t, t < nt → f2 t = ft t) ∧ (∃ f3, h'[b + 3]? = some (ia g 3 f3) ∧ ∀ j, j < 3 → f3 j = fl j) ∧ FrX (rgX b) g h h')) := by
  intro m
  induction m with
  | zero =>
    intro k h1 hO1 hR1 f2 h2 f3 h3 hf3 hF hk hf2
    refine ex_iload_n (pc := 141) dX2_becomeAs_141 rfl ?_
    refine ex_iconst (pc := 142) (v := (nI 3)) dX2_becomeAs_142 (by decide) ?_
    refine bx_icmp_ge_t (pc := 143) (tgt := 164) dX2_becomeAs_143 (by decide) (by rw [show k = 3 by omega]; exact Int32.le_refl _) ?_
    refine ex_vret dX2_becomeAs_164 rfl ?_
    obtain rfl : k = 3 := by omega
    exact qv_mk ⟨hR1, ⟨f2, h2, hf2⟩, ⟨f3, h3, hf3⟩, hF⟩
  | succ m ih =>
    intro k h1 hO1 hR1 f2 h2 f3 h3 hf3 hF hk hf2
    replace ih := fun k' h1' a1 a2 a4 a5 a6 a7 a8 => ih k' h1' a1 a2 f2 a4 a5 a6 a7 a8
    refine ex_iload_n (pc := 141) dX2_becomeAs_141 rfl ?_
    refine ex_iconst (pc := 142) (v := (nI 3)) dX2_becomeAs_142 (by decide) ?_
    refine bx_icmp_ge_f (pc := 143) (tgt := 164) dX2_becomeAs_143 (by decide) (nI_ge (by omega) (by omega)) ?_
    refine ex_aload_n (pc := 146) dX2_becomeAs_146 rfl ?_
    refine ex_get (pc := 147) dX2_becomeAs_147 fl_X2_55 hR1.1 rfl ?_
    refine ex_iload_n (pc := 150) dX2_becomeAs_150 rfl ?_
    refine ex_aload_n (pc := 151) dX2_becomeAs_151 rfl ?_
    refine ex_get (pc := 152) dX2_becomeAs_152 fl_X2_55 hO1.1.1 rfl ?_
    refine ex_iload_n (pc := 155) dX2_becomeAs_155 rfl ?_
    refine ex_ildn (k := k) (pc := 156) dX2_becomeAs_156 hO1.2.2.1 rfl (by omega) (by decide) ?_
    refine ex_istn (k := k) (pc := 157) dX2_becomeAs_157 h3 rfl (by omega) (by decide) ?_
    first | refine sx_inc (pc := 158) dX2_becomeAs_158 rfl rfl (by decide) ?_ | refine sx_iinc (pc := 158) dX2_becomeAs_158 rfl rfl (by decide) ?_
    show Ex _ _ _ _ _ _ [_, _, _] _ _ _
    refine ex_goto (pc := 161) (tgt := 141) dX2_becomeAs_161 (by decide) ?_
    have hS : FrX (rgX b) g h1 (h1.set (b + 3) (ia g 3 (upd f3 k (fl k)))) := FrX.rg hb ⟨by omega, by omega⟩
    refine ih (k + 1) _ (hO1.fr ho hS (rg_ap hap hb)) ?_ (gs_ne (by omega) h2) (upd f3 k (fl k)) (gs_eq h3) (fun j hj => ?_) (hF.tr hS) (by omega) hf2
    · obtain ⟨a1, a2, a3, ⟨fp, a4, a5⟩, a6, a7⟩ := hR1
      exact ⟨gs_ne (by omega) a1, a2, a3, ⟨fp, gs_ne (by omega) a4, a5⟩, fun i hi => gs_ne (by omega) (a6 i hi), fun i hi => by obtain ⟨u1, u2, u3, u4, e⟩ := a7 i hi; exact ⟨u1, u2, u3, u4, gs_ne (by omega) e⟩⟩
    · by_cases e : j = k
      · subst e; exact upd_eq
      · rw [upd_ne e]; exact hf3 j (by omega)
/-- a room on its way: its object says u, its posts say s already -/
def TgB (g : Gl) (h : AH) (b : Nat) (s u : Nat → Int32) (n : Nat) : Prop := h[b]? = some (rmC g b u (setL (wll s) 48)) ∧ (∃ fp, h[b + 1]? = some (ra g 2 8 fp) ∧ ∀ i, i < 8 → fp i = some (g.1 + (b + 4 + i))) ∧ (∀ i, i < n → h[b + 4 + i]? = some (pS s i)) ∧ ∀ i, i < 8 → ∃ kd ce si ti, h[b + 4 + i]? = some (po kd ce si ti)
theorem TgB.ne {g : Gl} {h : AH} {b n k : Nat} {s u : Nat → Int32} {c : va_E} (a : TgB g h b s u n) (hk : k = b + 2 ∨ k = b + 3) (hn : n ≤ 8) : TgB g (h.set k c) b s u n := by
  obtain ⟨a1, ⟨fp, a4, a5⟩, a6, a7⟩ := a
  exact ⟨gs_ne (by omega) a1, ⟨fp, gs_ne (by omega) a4, a5⟩, fun i hi => gs_ne (by omega) (a6 i hi), fun i hi => by obtain ⟨u1, u2, u3, u4, e⟩ := a7 i hi; exact ⟨u1, u2, u3, u4, gs_ne (by omega) e⟩⟩
set_option maxHeartbeats 4000000 in
set_option maxRecDepth 100000 in
theorem c_R_becomeAs_2 {g : Gl} {d ks : Nat} {h : AH} {b o n nt : Nat} {s : Nat → Int32} {ft : Nat → Option Nat} {fl : Nat → Int32} {tx : Nat → Nat} (hb : b ≤ 25) (ho : o ≤ 25) (hap : b + 12 ≤ o ∨ o + 12 ≤ b) {u : Nat → Int32} (hu : ∀ k, k < 10 → k ≠ 1 → u k = s k) : ∀ (m k : Nat) (h1 : AH), OtB g h1 o s n nt ft fl tx → TgB g h1 b s u n → ∀ (f2 : Nat → Option Nat), h1[b + 2]? = some (ra g 3 14 f2) → ∀ (f3 : Nat → Int32), h1[b + 3]? = some (ia g 3 f3) → (∀ t, t < k → f2 t = ft t) → FrX (rgX b) g h h1 → k + m = nt → Ex g mX2_becomeAs d 0 ks 105 [some (.ref (g.1 + b)), some (.ref (g.1 + o)), some (.int (nI k))] [] h1 (qv (fun h' => RoomB g h' b s n ∧ (∃ f2, h'[b + 2]? = some (ra g 3 14 f2) ∧ ∀ t, t < nt → f2 t = ft t) ∧ (∃ f3, h'[b + 3]? = some (ia g 3 f3) ∧ ∀ j, j < 3 → f3 j = fl j) ∧ FrX (rgX b) g h h')) := by
  intro m
  induction m with
  | zero =>
    intro k h1 hO1 hT1 f2 h2 f3 h3 hf2 hF hk
    have hnt2 := hO1.2.2.2.2.2
    have hnt1 := hO1.2.2.2.2.1
    have hn8 := hO1.1.2.2.1
    refine ex_iload_n (pc := 105) dX2_becomeAs_105 rfl ?_
    refine ex_aload_n (pc := 106) dX2_becomeAs_106 rfl ?_
    refine ex_get (pc := 107) dX2_becomeAs_107 fl_X2_52 hO1.1.1 rfl ?_
    refine bx_icmp_ge_t (pc := 110) (tgt := 131) dX2_becomeAs_110 (by decide) (by rw [hnt1, show k = nt by omega]; exact Int32.le_refl _) ?_
    refine ex_aload_n (pc := 131) dX2_becomeAs_131 rfl ?_
    refine ex_aload_n (pc := 132) dX2_becomeAs_132 rfl ?_
    refine ex_get (pc := 133) dX2_becomeAs_133 fl_X2_52 hO1.1.1 rfl ?_
    refine ex_put (pc := 136) dX2_becomeAs_136 fp_X2_52 hT1.1 (Nat.le_of_ble_eq_true rfl) rfl rfl ?_
    rw [rm_1]
    refine ex_iconst (pc := 139) (v := (nI 0)) dX2_becomeAs_139 (by decide) ?_
    refine sx_istore_n (pc := 140) dX2_becomeAs_140 rfl (by decide) ?_
    show Ex _ _ _ _ _ _ [_, _, _] _ _ _
    have hS : FrX (rgX b) g h1 (h1.set b (rmC g b (upd u 1 (s 1)) (setL (wll s) 48))) := FrX.rg hb ⟨by omega, by omega⟩
    have eq : rmC g b (upd u 1 (s 1)) (setL (wll s) 48) = rmC g b s (setL (wll s) 48) := rmC_eq (fun j hj => by
      by_cases e : j = 1
      · subst e; exact upd_eq
      · rw [upd_ne e]; exact hu j hj e)
    rw [eq] at hS ⊢
    refine c_R_becomeAs_3 hb ho hap 3 0 _ (hO1.fr ho hS (rg_ap hap hb)) ?_ f2 (gs_ne (by omega) h2) f3 (gs_ne (by omega) h3) (fun j hj => absurd hj (Nat.not_lt_zero j)) (hF.tr hS) (by omega) (fun t ht => hf2 t (by omega))
    obtain ⟨a1, ⟨fp, a4, a5⟩, a6, a7⟩ := hT1
    exact ⟨gs_eq a1, hO1.1.2.1, hn8, ⟨fp, gs_ne (by omega) a4, a5⟩, fun i hi => gs_ne (by omega) (a6 i hi), fun i hi => by obtain ⟨u1, u2, u3, u4, e⟩ := a7 i hi; exact ⟨u1, u2, u3, u4, gs_ne (by omega) e⟩⟩
  | succ m ih =>
    intro k h1 hO1 hT1 f2 h2 f3 h3 hf2 hF hk
    have hnt2 := hO1.2.2.2.2.2
    have hnt1 := hO1.2.2.2.2.1
    have hn8 := hO1.1.2.2.1
    obtain ⟨vs, hvs⟩ := (hO1.2.2.2.1 k (by omega)).2
    refine ex_iload_n (pc := 105) dX2_becomeAs_105 rfl ?_
    refine ex_aload_n (pc := 106) dX2_becomeAs_106 rfl ?_
    refine ex_get (pc := 107) dX2_becomeAs_107 fl_X2_52 hO1.1.1 rfl ?_
    refine bx_icmp_ge_f (pc := 110) (tgt := 131) dX2_becomeAs_110 (by decide) (by rw [hnt1]; exact nI_ge (by omega) (by omega)) ?_
    refine ex_aload_n (pc := 113) dX2_becomeAs_113 rfl ?_
    refine ex_get (pc := 114) dX2_becomeAs_114 fl_X2_48 hT1.1 rfl ?_
    refine ex_iload_n (pc := 117) dX2_becomeAs_117 rfl ?_
    refine ex_aload_n (pc := 118) dX2_becomeAs_118 rfl ?_
    refine ex_get (pc := 119) dX2_becomeAs_119 fl_X2_48 hO1.1.1 rfl ?_
    refine ex_iload_n (pc := 122) dX2_becomeAs_122 rfl ?_
    refine ex_aldn (k := k) (v := .ref (g.1 + (96 + 3 * tx k))) (pc := 123) dX2_becomeAs_123 rfl hO1.2.1 rfl (by omega) (by decide) (congrArg va_rf (hO1.2.2.2.1 k (by omega)).1) ?_
    refine ex_astn (k := k) (t := 3) (ci := 5) (pc := 124) dX2_becomeAs_124 rfl rfl h2 hvs rfl (by omega) (by decide) ?_
    first | refine sx_inc (pc := 125) dX2_becomeAs_125 rfl rfl (by decide) ?_ | refine sx_iinc (pc := 125) dX2_becomeAs_125 rfl rfl (by decide) ?_
    show Ex _ _ _ _ _ _ [_, _, _] _ _ _
    refine ex_goto (pc := 128) (tgt := 105) dX2_becomeAs_128 (by decide) ?_
    have hS : FrX (rgX b) g h1 (h1.set (b + 2) (ra g 3 14 (va_up f2 k (some (g.1 + (96 + 3 * tx k)))))) := FrX.rg hb ⟨by omega, by omega⟩
    refine ih (k + 1) _ (hO1.fr ho hS (rg_ap hap hb)) (hT1.ne (Or.inl rfl) hn8) (va_up f2 k (some (g.1 + (96 + 3 * tx k)))) (gs_eq h2) f3 (gs_ne (by omega) h3) (fun j hj => ?_) (hF.tr hS) (by omega)
    by_cases e : j = k
    · subst e; rw [(hO1.2.2.2.1 j (by omega)).1]; simp [va_up]
    · rw [show va_up f2 k (some (g.1 + (96 + 3 * tx k))) j = f2 j by simp [va_up, e]]; exact hf2 j (by omega)
set_option maxHeartbeats 4000000 in
set_option maxRecDepth 100000 in
theorem c_R_becomeAs_f {g : Gl} {d ks : Nat} {h : AH} {b o n nt : Nat} {s : Nat → Int32} {ft : Nat → Option Nat} {fl : Nat → Int32} {tx : Nat → Nat} (hb : b ≤ 25) (ho : o ≤ 25) (hap : b + 12 ≤ o ∨ o + 12 ≤ b) {h1 : AH} {k : Int32} (hO1 : OtB g h1 o s n nt ft fl tx) {s0 : Nat → Int32} {w0 : Int64} (hT0 : h1[b]? = some (rmC g b s0 w0)) (hT1 : ∃ fp, h1[b + 1]? = some (ra g 2 8 fp) ∧ ∀ i, i < 8 → fp i = some (g.1 + (b + 4 + i))) (hT2 : ∀ i, i < n → h1[b + 4 + i]? = some (pS s i)) (hT3 : ∀ i, i < 8 → ∃ kd ce si ti, h1[b + 4 + i]? = some (po kd ce si ti)) {f2 : Nat → Option Nat} (h2 : h1[b + 2]? = some (ra g 3 14 f2)) {f3 : Nat → Int32} (h3 : h1[b + 3]? = some (ia g 3 f3)) (hF : FrX (rgX b) g h h1) : Ex g mX2_becomeAs d 0 ks 31 [some (.ref (g.1 + b)), some (.ref (g.1 + o)), some (.int k)] [] h1 (qv (fun h' => RoomB g h' b s n ∧ (∃ f2, h'[b + 2]? = some (ra g 3 14 f2) ∧ ∀ t, t < nt → f2 t = ft t) ∧ (∃ f3, h'[b + 3]? = some (ia g 3 f3) ∧ ∀ j, j < 3 → f3 j = fl j) ∧ FrX (rgX b) g h h')) := by
  refine ex_aload_n (pc := 31) dX2_becomeAs_31 rfl ?_
  refine ex_aload_n (pc := 32) dX2_becomeAs_32 rfl ?_
  refine ex_get (pc := 33) dX2_becomeAs_33 fl_X2_17 hO1.1.1 rfl ?_
  refine ex_put (pc := 36) dX2_becomeAs_36 fp_X2_17 hT0 (Nat.le_of_ble_eq_true rfl) rfl rfl ?_
  rw [rm_0]
  refine ex_aload_n (pc := 39) dX2_becomeAs_39 rfl ?_
  refine ex_aload_n (pc := 40) dX2_becomeAs_40 rfl ?_
  refine ex_get (pc := 41) dX2_becomeAs_41 fl_X2_21 (gs_ne (by omega) hO1.1.1) rfl ?_
  refine ex_put (pc := 44) dX2_becomeAs_44 fp_X2_21 (gs_eq hT0) (Nat.le_of_ble_eq_true rfl) rfl rfl ?_
  rw [rm_w, List.set_set]
  refine ex_aload_n (pc := 47) dX2_becomeAs_47 rfl ?_
  refine ex_aload_n (pc := 48) dX2_becomeAs_48 rfl ?_
  refine ex_get (pc := 49) dX2_becomeAs_49 fl_X2_25 (gs_ne (by omega) hO1.1.1) rfl ?_
  refine ex_put (pc := 52) dX2_becomeAs_52 fp_X2_25 (gs_eq hT0) (Nat.le_of_ble_eq_true rfl) rfl rfl ?_
  rw [rm_7, List.set_set]
  refine ex_aload_n (pc := 55) dX2_becomeAs_55 rfl ?_
  refine ex_aload_n (pc := 56) dX2_becomeAs_56 rfl ?_
  refine ex_get (pc := 57) dX2_becomeAs_57 fl_X2_28 (gs_ne (by omega) hO1.1.1) rfl ?_
  refine ex_put (pc := 60) dX2_becomeAs_60 fp_X2_28 (gs_eq hT0) (Nat.le_of_ble_eq_true rfl) rfl rfl ?_
  rw [rm_3, List.set_set]
  refine ex_aload_n (pc := 63) dX2_becomeAs_63 rfl ?_
  refine ex_aload_n (pc := 64) dX2_becomeAs_64 rfl ?_
  refine ex_get (pc := 65) dX2_becomeAs_65 fl_X2_31 (gs_ne (by omega) hO1.1.1) rfl ?_
  refine ex_put (pc := 68) dX2_becomeAs_68 fp_X2_31 (gs_eq hT0) (Nat.le_of_ble_eq_true rfl) rfl rfl ?_
  rw [rm_4, List.set_set]
  refine ex_aload_n (pc := 71) dX2_becomeAs_71 rfl ?_
  refine ex_aload_n (pc := 72) dX2_becomeAs_72 rfl ?_
  refine ex_get (pc := 73) dX2_becomeAs_73 fl_X2_34 (gs_ne (by omega) hO1.1.1) rfl ?_
  refine ex_put (pc := 76) dX2_becomeAs_76 fp_X2_34 (gs_eq hT0) (Nat.le_of_ble_eq_true rfl) rfl rfl ?_
  rw [rm_5, List.set_set]
  refine ex_aload_n (pc := 79) dX2_becomeAs_79 rfl ?_
  refine ex_aload_n (pc := 80) dX2_becomeAs_80 rfl ?_
  refine ex_get (pc := 81) dX2_becomeAs_81 fl_X2_37 (gs_ne (by omega) hO1.1.1) rfl ?_
  refine ex_put (pc := 84) dX2_becomeAs_84 fp_X2_37 (gs_eq hT0) (Nat.le_of_ble_eq_true rfl) rfl rfl ?_
  rw [rm_6, List.set_set]
  refine ex_aload_n (pc := 87) dX2_becomeAs_87 rfl ?_
  refine ex_aload_n (pc := 88) dX2_becomeAs_88 rfl ?_
  refine ex_get (pc := 89) dX2_becomeAs_89 fl_X2_40 (gs_ne (by omega) hO1.1.1) rfl ?_
  refine ex_put (pc := 92) dX2_becomeAs_92 fp_X2_40 (gs_eq hT0) (Nat.le_of_ble_eq_true rfl) rfl rfl ?_
  rw [rm_2, List.set_set]
  refine ex_aload_n (pc := 95) dX2_becomeAs_95 rfl ?_
  refine ex_aload_n (pc := 96) dX2_becomeAs_96 rfl ?_
  refine ex_get (pc := 97) dX2_becomeAs_97 fl_X2_43 (gs_ne (by omega) hO1.1.1) rfl ?_
  refine ex_put (pc := 100) dX2_becomeAs_100 fp_X2_43 (gs_eq hT0) (Nat.le_of_ble_eq_true rfl) rfl rfl ?_
  rw [rm_9, List.set_set]
  refine ex_iconst (pc := 103) (v := (nI 0)) dX2_becomeAs_103 (by decide) ?_
  refine sx_istore_n (pc := 104) dX2_becomeAs_104 rfl (by decide) ?_
  show Ex _ _ _ _ _ _ [_, _, _] _ _ _
  generalize hu : upd (upd (upd (upd (upd (upd (upd (upd s0 0 (s 0)) 7 (s 7)) 3 (s 3)) 4 (s 4)) 5 (s 5)) 6 (s 6)) 2 (s 2)) 9 (s 9) = u
  have hU : ∀ k, k < 10 → k ≠ 1 → k ≠ 8 → u k = s k := by
    intro k hk h1' h8'
    subst hu
    have : k = 0 ∨ k = 2 ∨ k = 3 ∨ k = 4 ∨ k = 5 ∨ k = 6 ∨ k = 7 ∨ k = 9 := by omega
    rcases this with e | e | e | e | e | e | e | e <;> subst e <;> simp [upd]
  have hS : FrX (rgX b) g h1 (h1.set b (rmC g b u (setL (wll s) 48))) := FrX.rg hb ⟨by omega, by omega⟩
  have e8 : rmC g b u (setL (wll s) 48) = rmC g b (upd u 8 (s 8)) (setL (wll s) 48) := by simp [rmC, upd]
  rw [e8] at hS ⊢
  refine c_R_becomeAs_2 (u := upd u 8 (s 8)) hb ho hap (fun k hk h1' => ?_) nt 0 _ (hO1.fr ho hS (rg_ap hap hb)) ⟨gs_eq hT0, ?_, ?_, ?_⟩ f2 (gs_ne (by omega) h2) f3 (gs_ne (by omega) h3) (fun j hj => absurd hj (Nat.not_lt_zero j)) (hF.tr hS) (by omega)
  · by_cases e : k = 8
    · subst e; exact upd_eq
    · rw [upd_ne e]; exact hU k hk h1' e
  · obtain ⟨fp, a4, a5⟩ := hT1
    exact ⟨fp, gs_ne (by omega) a4, a5⟩
  · exact fun i hi => gs_ne (by omega) (hT2 i hi)
  · exact fun i hi => by obtain ⟨u1, u2, u3, u4, e⟩ := hT3 i hi; exact ⟨u1, u2, u3, u4, gs_ne (by omega) e⟩
set_option maxHeartbeats 4000000 in
set_option maxRecDepth 100000 in
theorem c_R_becomeAs_1 {g : Gl} {d ks : Nat} {h : AH} {b o n nt : Nat} {s : Nat → Int32} {ft : Nat → Option Nat} {fl : Nat → Int32} {tx : Nat → Nat} (hb : b ≤ 25) (ho : o ≤ 25) (hap : b + 12 ≤ o ∨ o + 12 ≤ b) (hd : 2 ≤ d) {s0 : Nat → Int32} {w0 : Int64} {f2 : Nat → Option Nat} {f3 : Nat → Int32} : ∀ (m k : Nat) (h1 : AH), OtB g h1 o s n nt ft fl tx → h1[b]? = some (rmC g b s0 w0) → (∃ fp, h1[b + 1]? = some (ra g 2 8 fp) ∧ ∀ i, i < 8 → fp i = some (g.1 + (b + 4 + i))) → (∀ i, i < k → h1[b + 4 + i]? = some (pS s i)) → (∀ i, i < 8 → ∃ kd ce si ti, h1[b + 4 + i]? = some (po kd ce si ti)) → h1[b + 2]? = some (ra g 3 14 f2) → h1[b + 3]? = some (ia g 3 f3) → FrX (rgX b) g h h1 → k + m = n → Ex g mX2_becomeAs d 0 ks 2 [some (.ref (g.1 + b)), some (.ref (g.1 + o)), some (.int (nI k))] [] h1 (qv (fun h' => RoomB g h' b s n ∧ (∃ f2, h'[b + 2]? = some (ra g 3 14 f2) ∧ ∀ t, t < nt → f2 t = ft t) ∧ (∃ f3, h'[b + 3]? = some (ia g 3 f3) ∧ ∀ j, j < 3 → f3 j = fl j) ∧ FrX (rgX b) g h h')) := by
  intro m
  induction m with
  | zero =>
    intro k h1 hO1 hT0 hT1 hT2 hT3 h2 h3 hF hk
    have hN := hO1.1.2.1
    have hn8 := hO1.1.2.2.1
    obtain ⟨fpo, hp3, hp4⟩ := hO1.1.2.2.2.1
    obtain ⟨fp, hp1, hp2⟩ := hT1
    refine ex_iload_n (pc := 2) dX2_becomeAs_2 rfl ?_
    refine ex_aload_n (pc := 3) dX2_becomeAs_3 rfl ?_
    refine ex_get (pc := 4) dX2_becomeAs_4 fl_X2_17 hO1.1.1 rfl ?_
    refine bx_icmp_ge_t (pc := 7) (tgt := 31) dX2_becomeAs_7 (by decide) (by rw [hN, show k = n by omega]; exact Int32.le_refl _) ?_
    obtain rfl : k = n := by omega
    exact c_R_becomeAs_f hb ho hap hO1 hT0 ⟨fp, hp1, hp2⟩ hT2 hT3 h2 h3 hF
  | succ m ih =>
    intro k h1 hO1 hT0 hT1 hT2 hT3 h2 h3 hF hk
    have hN := hO1.1.2.1
    have hn8 := hO1.1.2.2.1
    obtain ⟨fpo, hp3, hp4⟩ := hO1.1.2.2.2.1
    obtain ⟨fp, hp1, hp2⟩ := hT1
    obtain ⟨k1, k2, k3, k4, e0⟩ := hT3 k (by omega)
    refine ex_iload_n (pc := 2) dX2_becomeAs_2 rfl ?_
    refine ex_aload_n (pc := 3) dX2_becomeAs_3 rfl ?_
    refine ex_get (pc := 4) dX2_becomeAs_4 fl_X2_17 hO1.1.1 rfl ?_
    refine bx_icmp_ge_f (pc := 7) (tgt := 31) dX2_becomeAs_7 (by decide) (by rw [hN]; exact nI_ge (by omega) (by omega)) ?_
    refine ex_aload_n (pc := 10) dX2_becomeAs_10 rfl ?_
    refine ex_get (pc := 11) dX2_becomeAs_11 fl_X2_11 hT0 rfl ?_
    refine ex_iload_n (pc := 14) dX2_becomeAs_14 rfl ?_
    refine ex_aldn (k := k) (v := .ref (g.1 + (b + 4 + k))) (pc := 15) dX2_becomeAs_15 rfl hp1 rfl (by omega) (by decide) (congrArg va_rf (hp2 k (by omega))) ?_
    refine ex_aload_n (pc := 16) dX2_becomeAs_16 rfl ?_
    refine ex_get (pc := 17) dX2_becomeAs_17 fl_X2_11 hO1.1.1 rfl ?_
    refine ex_iload_n (pc := 20) dX2_becomeAs_20 rfl ?_
    refine ex_aldn (k := k) (v := .ref (g.1 + (o + 4 + k))) (pc := 21) dX2_becomeAs_21 rfl hp3 rfl (by omega) (by decide) (congrArg va_rf (hp4 k (by omega))) ?_
    refine cx_VL1v (pc := 22) dX2_becomeAs_22 lk_X2_60 e0 rfl (Nat.le_of_ble_eq_true rfl) (Nat.le_of_ble_eq_true rfl) (by omega) (c_P_becomeAs (q := b + 4 + k) (q2 := o + 4 + k) e0 (hO1.1.2.2.2.2.1 k (by omega)) (by omega)) (fun h_22 q_22 => ?_)
    rw [q_22]
    first | refine sx_inc (pc := 25) dX2_becomeAs_25 rfl rfl (by decide) ?_ | refine sx_iinc (pc := 25) dX2_becomeAs_25 rfl rfl (by decide) ?_
    show Ex _ _ _ _ _ _ [_, _, _] _ _ _
    refine ex_goto (pc := 28) (tgt := 2) dX2_becomeAs_28 (by decide) ?_
    have hS : FrX (rgX b) g h1 (h1.set (b + 4 + k) (pS s k)) := FrX.rg hb ⟨by omega, by omega⟩
    refine ih (k + 1) _ (hO1.fr ho hS (rg_ap hap hb)) (gs_ne (by omega) hT0) ⟨fp, gs_ne (by omega) hp1, hp2⟩ (fun i hi => ?_) (fun i hi => ?_) (gs_ne (by omega) h2) (gs_ne (by omega) h3) (hF.tr hS) (by omega)
    · by_cases e : i = k
      · subst e; exact gs_eq e0
      · exact gs_ne (by omega) (hT2 i (by omega))
    · by_cases e : i = k
      · subst e; exact ⟨_, _, _, _, gs_eq e0⟩
      · obtain ⟨u1, u2, u3, u4, q⟩ := hT3 i hi
        exact ⟨u1, u2, u3, u4, gs_ne (by omega) q⟩
set_option maxHeartbeats 4000000 in
set_option maxRecDepth 100000 in
theorem c_R_becomeAs_0 {g : Gl} {d ks : Nat} {h : AH} {b o n nt : Nat} {s : Nat → Int32} {ft : Nat → Option Nat} {fl : Nat → Int32} {tx : Nat → Nat} (hb : b ≤ 25) (ho : o ≤ 25) (hap : b + 12 ≤ o ∨ o + 12 ≤ b) (hd : 2 ≤ d) (hO : OtB g h o s n nt ft fl tx) (hT : ShB g h b) {l2 : Option Value} : Ex g mX2_becomeAs d 0 ks 0 [some (.ref (g.1 + b)), some (.ref (g.1 + o)), l2] [] h (qv (fun h' => RoomB g h' b s n ∧ (∃ f2, h'[b + 2]? = some (ra g 3 14 f2) ∧ ∀ t, t < nt → f2 t = ft t) ∧ (∃ f3, h'[b + 3]? = some (ia g 3 f3) ∧ ∀ j, j < 3 → f3 j = fl j) ∧ FrX (rgX b) g h h')) := by
  obtain ⟨⟨s0, w0, e1⟩, e2, e3, ⟨f2, e4⟩, f3, e5⟩ := hT
  refine ex_iconst (pc := 0) (v := (nI 0)) dX2_becomeAs_0 (by decide) ?_
  refine sx_istore_n (pc := 1) dX2_becomeAs_1 rfl (by decide) ?_
  show Ex _ _ _ _ _ _ [_, _, _] _ _ _
  exact c_R_becomeAs_1 hb ho hap hd n 0 _ hO e1 e2 (fun i hi => absurd hi (Nat.not_lt_zero i)) e3 e4 e5 FrX.rf (by omega)
theorem TxC.fr {S : Nat → Prop} {g : Gl} {h h' : AH} {s : Nat → Int32} {t j ky L lv : Nat} (a : TxC g h s t j ky L lv) (q : FrX S g h h') (hS : ∀ k, 95 ≤ k → ¬ S k) : TxC g h' s t j ky L lv := by
  obtain ⟨f, fs, a1, a2, a3, a4⟩ := a
  obtain ⟨fs', a3'⟩ := q.2.2 _ (Or.inr (Or.inr ⟨by omega, by omega⟩)) _ _ a3
  exact ⟨f, fs', q.at (hS _ (by omega)) (by unfold scr; omega) a1, q.at (hS _ (by omega)) (by unfold scr; omega) a2, a3', a4⟩
theorem CR.fr {S : Nat → Prop} {g : Gl} {h h' : AH} {b n nt : Nat} {s : Nat → Int32} (a : CR g h b s n nt) (q : FrX S g h h') (hS : ∀ k, rgX b k ∨ 95 ≤ k → ¬ S k) : CR g h' b s n nt := by
  obtain ⟨a1, a2, a3, ⟨ft, fl, tx, a4, a5, a6, a7⟩, a8⟩ := a
  refine ⟨a1.fr a8 q (fun k hk => hS k (Or.inl hk)), a2, a3, ⟨ft, fl, tx, q.at (hS _ (Or.inl (by unfold rgX; omega))) (nscr (by omega)) a4, q.at (hS _ (Or.inl (by unfold rgX; omega))) (nscr (by omega)) a5, fun t ht => ?_, a7⟩, a8⟩
  obtain ⟨e, ky, L, lv, o, c⟩ := a6 t ht
  exact ⟨e, ky, L, lv, o, c.fr q (fun k hk => hS k (Or.inr hk))⟩
theorem CR.ot {g : Gl} {h : AH} {b n nt : Nat} {s : Nat → Int32} (a : CR g h b s n nt) : ∃ ft fl tx, OtB g h b s n nt ft fl tx ∧ (∀ t, t < nt → ft t = some (g.1 + (96 + 3 * tx t)) ∧ ∃ ky L lv, txtOK s t ky L lv ∧ TxC g h s t (tx t) ky L lv) ∧ ∀ key, key < 3 → fl key = oN (-1) (cntS s nt (nI key)) := by
  obtain ⟨a1, a2, a3, ⟨ft, fl, tx, a4, a5, a6, a7⟩, a8⟩ := a
  refine ⟨ft, fl, tx, ⟨a1, a4, a5, fun t ht => ?_, a3.1, a3.2.1⟩, a6, a7⟩
  obtain ⟨e, ky, L, lv, o, ⟨f, fs, c1, c2⟩⟩ := a6 t ht
  exact ⟨e, _, c1⟩

set_option maxHeartbeats 4000000 in
set_option maxRecDepth 100000 in
theorem c_R_becomeAs {g : Gl} {d ks : Nat} {h : AH} {b o n nt : Nat} {s : Nat → Int32} (hb : b ≤ 25) (hap : b + 12 ≤ o ∨ o + 12 ≤ b) (hd : 2 ≤ d) (hO : CR g h o s n nt) (hT : ShB g h b) {l2 : Option Value} : Ex g mX2_becomeAs d 0 ks 0 [some (.ref (g.1 + b)), some (.ref (g.1 + o)), l2] [] h (qv (fun h' => CR g h' b s n nt ∧ FrX (rgX b) g h h')) := by
  obtain ⟨ft, fl, tx, o1, o2, o3⟩ := hO.ot
  refine (c_R_becomeAs_0 hb hO.2.2.2.2 hap hd o1 hT).mono (fun h' r a => ⟨a.1, ?_⟩)
  replace a := a.2
  obtain ⟨a1, ⟨f2, a2, a3⟩, ⟨f3, a4, a5⟩, a6⟩ := a
  refine ⟨⟨a1, hO.2.1, hO.2.2.1, ⟨f2, f3, tx, a2, a4, fun t ht => ?_, fun key hk => ?_⟩, hb⟩, a6⟩
  · obtain ⟨e, ky, L, lv, w, c⟩ := o2 t ht
    exact ⟨(a3 t ht).trans e, ky, L, lv, w, c.fr a6 (fun k hk => rg_ap hap hb k (Or.inr hk))⟩
  · exact (a5 key hk).trans (o3 key hk)

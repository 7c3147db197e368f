/-! the class's reader: openings and joints -/
theorem cn_clo {x k : Nat} (hx : rkc x = 0) : ∀ (σ : List Nat) (A : List Stq), cn x (clo k σ A).1 = cn x σ := by
  intro σ
  induction σ with
  | nil => intro A; rfl
  | cons c σ ih =>
    intro A
    rw [clo]
    by_cases e : k < rkc c
    · rw [if_pos e, ih, cn, if_neg (fun q => by rw [q] at e; omega), Nat.zero_add]
    · rw [if_neg e]
theorem clo_len {k : Nat} : ∀ (σ : List Nat) (A : List Stq), (clo k σ A).2.length + (clo k σ A).1.length = A.length + σ.length := by
  intro σ
  induction σ with
  | nil => intro A; rfl
  | cons c σ ih =>
    intro A
    rw [clo]
    by_cases e : k < rkc c
    · rw [if_pos e, ih, List.length_append, List.length_singleton, List.length_cons]; omega
    · rw [if_neg e]
theorem clo_lvs {k : Nat} : ∀ (σ : List Nat) (A : List Stq), lvs (clo k σ A).2 = lvs A := by
  intro σ
  induction σ with
  | nil => intro A; rfl
  | cons c σ ih =>
    intro A
    rw [clo]
    by_cases e : k < rkc c
    · rw [if_pos e, ih, lvs_app]; rfl
    · rw [if_neg e]
theorem bng_f : ∀ (σ : List Nat) (A : List Stq) (k : Nat), (bng σ A k).2.1.length + (bng σ A k).1.length = A.length + σ.length ∧ lvs (bng σ A k).2.1 = lvs A ∧ cn 40 (bng σ A k).1 = cn 40 σ ∧ (cn 33 σ ≤ k → cn 33 (bng σ A k).1 ≤ (bng σ A k).2.2) ∧ (bng σ A k).2.2 ≤ k := by
  intro σ
  induction σ with
  | nil => intro A k; exact ⟨rfl, rfl, rfl, fun q => q, Nat.le_refl _⟩
  | cons c σ ih =>
    intro A k
    rw [bng]
    by_cases e : c = 33
    · rw [if_pos e]
      obtain ⟨a1, a2, a3, a4, a5⟩ := ih (A ++ [(2, 33)]) (k - 1)
      rw [a1, a2, a3, List.length_append, List.length_singleton, List.length_cons, lvs_app, cn, cn, if_neg (by omega), if_pos e]
      exact ⟨by omega, rfl, by omega, fun q => a4 (by omega), by omega⟩
    · rw [if_neg e]
      exact ⟨rfl, rfl, rfl, fun q => q, Nat.le_refl _⟩
def CfR (g : Gl) (h : AH) (r tf : Nat → Int32) (tl ky : Nat) (c : Cfq) : Prop := RdS g h r tf tl ky c.1 c.2.2.1 ∧ r 7 = nI (lvs c.2.2.1) ∧ r 8 = nI c.2.2.2.1 ∧ r 9 = nI c.2.2.2.2 ∧ r 10 = bI (c.2.1 = true)
def CfI (c : Cfq) (n : Nat) : Prop := c.2.2.1.length + c.1.length + n ≤ 96 ∧ cn 33 c.1 ≤ c.2.2.2.2 ∧ c.2.2.2.1 ≤ cn 40 c.1 ∧ c.2.2.2.1 ≤ 8 ∧ c.2.2.2.2 ≤ 8
def RdA (g : Gl) (h : AH) (r tf : Nat → Int32) (tl : Nat) : Prop := RdT g h r tf tl ∧ (∃ fs, h[42]? = some (ia g 96 fs)) ∧ ∃ fo, h[43]? = some (ia g 96 fo)
theorem RdS.a {g : Gl} {h : AH} {r tf : Nat → Int32} {tl ky : Nat} {σ : List Nat} {A : List Stq} (a : RdS g h r tf tl ky σ A) : RdA g h r tf tl := by
  obtain ⟨hT, -, ⟨fs, h42, -⟩, -, ⟨fo, h43, -⟩, -⟩ := a
  exact ⟨hT, ⟨fs, h42⟩, fo, h43⟩
/-- what taking a word leaves -/
def tkQ (g : Gl) (tf : Nat → Int32) (tl ky : Nat) (r : Nat → Int32) (o : Option Cfq) (h h' : AH) (x : Int32) : Prop := FrX rdW g h h' ∧ ∃ r', r' 11 = r 11 ∧ r' 12 = r 12 ∧ (∀ c, o = some c → x = 1 ∧ CfR g h' r' tf tl ky c) ∧ (o = none → x = 0 ∧ RdA g h' r' tf tl)
theorem tkQ.n {g : Gl} {tf : Nat → Int32} {tl ky : Nat} {r : Nat → Int32} {o : Option Cfq} {h h' : AH} {r' : Nat → Int32} (ho : o = none) (f : FrX rdW g h h') (h1 : r' 11 = r 11) (h2 : r' 12 = r 12) (a : RdA g h' r' tf tl) : tkQ g tf tl ky r o h h' 0 := ⟨f, r', h1, h2, fun c q => (by rw [ho] at q; cases q), fun _ => ⟨rfl, a⟩⟩
theorem tkQ.s {g : Gl} {tf : Nat → Int32} {tl ky : Nat} {r : Nat → Int32} {o : Option Cfq} {h h' : AH} {r' : Nat → Int32} {c : Cfq} (ho : o = some c) (f : FrX rdW g h h') (h1 : r' 11 = r 11) (h2 : r' 12 = r 12) (a : CfR g h' r' tf tl ky c) : tkQ g tf tl ky r o h h' 1 := ⟨f, r', h1, h2, fun c' q => (by rw [ho] at q; cases q; exact ⟨rfl, a⟩), fun q => (by rw [ho] at q; cases q)⟩
set_option maxHeartbeats 4000000 in
set_option maxRecDepth 100000 in
theorem c_R_takeOpening {g : Gl} {d ks : Nat} {h : AH} {r tf : Nat → Int32} {tb : Nat → Nat} {tl ky : Nat} {σ : List Nat} {A : List Stq} {br nt n : Nat} (hC : CfR g h r tf tl ky (σ, true, A, br, nt)) (hI : CfI (σ, true, A, br, nt) (n + 1)) {t : Tkn} (h2 : t.2.2.1 = 2) (hc : t.2.2.2 < 256) (hd : 1 ≤ d) : Ex g mX1_takeOpening d 0 ks 0 [some (.ref (g.1 + 40)), some (.int (nI t.2.2.2))] [] h (qi (tkQ g tf tl ky r (tkP σ A br nt t) h)) := by
  obtain ⟨hS, h7, h8, h9, h10⟩ := hC
  obtain ⟨hl, i33, i40, i8, i9⟩ := hI
  have hl : A.length + σ.length + (n + 1) ≤ 96 := hl
  have h7 : r 7 = nI (lvs A) := h7
  have h8 : r 8 = nI br := h8
  have h9 : r 9 = nI nt := h9
  have h10 : r 10 = 1 := h10
  have hS : RdS g h r tf tl ky σ A := hS
  have i33 : cn 33 σ ≤ nt := i33
  have i40 : br ≤ cn 40 σ := i40
  have i8 : br ≤ 8 := i8
  have i9 : nt ≤ 8 := i9
  by_cases e40 : t.2.2.2 = 40
  · by_cases b8 : br < 8
    · skip
      refine ex_iload_n (pc := 0) dX1_takeOpening_0 rfl ?_
      refine ex_bipush (pc := 1) (v := (nI 40)) dX1_takeOpening_1 (by decide) ?_
      refine bx_icmp_ne_f (pc := 3) (tgt := 28) dX1_takeOpening_3 (by decide) (by rw [e40]) ?_
      refine ex_aload_n (pc := 6) dX1_takeOpening_6 rfl ?_
      refine ex_get (pc := 7) dX1_takeOpening_7 fl_X1_37 hS.1.1 rfl ?_
      refine ex_bipush (pc := 10) (v := (nI 8)) dX1_takeOpening_10 (by decide) ?_
      refine bx_icmp_ge_f (pc := 12) (tgt := 28) dX1_takeOpening_12 (by decide) (by rw [h8]; exact nI_ge b8 (by omega)) ?_
      refine ex_aload_n (pc := 15) dX1_takeOpening_15 rfl ?_
      refine ex_dup (pc := 16) dX1_takeOpening_16 rfl ?_
      refine ex_get (pc := 17) dX1_takeOpening_17 fl_X1_37 hS.1.1 rfl ?_
      rw [h8]
      refine ex_iconst (pc := 20) (v := (nI 1)) dX1_takeOpening_20 (by decide) ?_
      refine ex_iadd (pc := 21) dX1_takeOpening_21 ?_
      rw [nI_add]
      refine ex_put (pc := 22) dX1_takeOpening_22 fp_X1_37 hS.1.1 (Nat.le_of_ble_eq_true rfl) rfl rfl ?_
      rw [rd_8]
      have hS1 := hS.s (k := 8) (v := nI (br + 1)) (by omega)
      refine ex_goto (pc := 25) (tgt := 58) dX1_takeOpening_25 (by decide) ?_
      refine ex_aload_n (pc := 58) dX1_takeOpening_58 rfl ?_
      refine ex_iload_n (pc := 59) dX1_takeOpening_59 rfl ?_
      refine cx_VL1v (pc := 60) dX1_takeOpening_60 lk_X1_140 hS1.1.1 rfl (Nat.le_of_ble_eq_true rfl) (Nat.le_of_ble_eq_true rfl) (by omega) (c_R_addOpen hS1 hc (by omega)) (fun h_60 q_60 => ?_)
      obtain ⟨hS2, f2⟩ := q_60
      refine ex_iconst (pc := 63) (v := 1) dX1_takeOpening_63 (by decide) ?_
      refine ex_zret dX1_takeOpening_64 rfl (by first | exact Or.inl rfl | exact Or.inr rfl | exact bI_01 _) ?_
      have eo : tkP σ A br nt t = some (40 :: σ, true, A, br + 1, nt) := by unfold tkP; rw [if_neg (by omega), if_pos ⟨h2, e40, b8⟩]
      refine qi_mk (tkQ.s (r' := upd (upd r 8 (nI (br + 1))) 5 (nI (σ.length + 1))) eo ((FrX.st (Or.inl rfl) (nscr (by omega))).tr f2) ((upd_ne (by decide)).trans (upd_ne (by decide))) ((upd_ne (by decide)).trans (upd_ne (by decide))) ⟨e40 ▸ hS2, ?_, ?_, ?_, ?_⟩)
      · rw [upd_ne (by decide), upd_ne (by decide)]; exact h7
      · rw [upd_ne (by decide), upd_eq]
      · rw [upd_ne (by decide), upd_ne (by decide)]; exact h9
      · rw [upd_ne (by decide), upd_ne (by decide)]; exact h10
    · skip
      refine ex_iload_n (pc := 0) dX1_takeOpening_0 rfl ?_
      refine ex_bipush (pc := 1) (v := (nI 40)) dX1_takeOpening_1 (by decide) ?_
      refine bx_icmp_ne_f (pc := 3) (tgt := 28) dX1_takeOpening_3 (by decide) (by rw [e40]) ?_
      refine ex_aload_n (pc := 6) dX1_takeOpening_6 rfl ?_
      refine ex_get (pc := 7) dX1_takeOpening_7 fl_X1_37 hS.1.1 rfl ?_
      refine ex_bipush (pc := 10) (v := (nI 8)) dX1_takeOpening_10 (by decide) ?_
      refine bx_icmp_ge_t (pc := 12) (tgt := 28) dX1_takeOpening_12 (by decide) (by rw [h8]; exact nI_le (by omega) (by omega)) ?_
      refine ex_iload_n (pc := 28) dX1_takeOpening_28 rfl ?_
      refine ex_bipush (pc := 29) (v := (nI 33)) dX1_takeOpening_29 (by decide) ?_
      refine bx_icmp_ne_t (pc := 31) (tgt := 56) dX1_takeOpening_31 (by decide) (by rw [e40]; decide) ?_
      refine ex_iconst (pc := 56) (v := 0) dX1_takeOpening_56 (by decide) ?_
      refine ex_zret dX1_takeOpening_57 rfl (by first | exact Or.inl rfl | exact Or.inr rfl | exact bI_01 _) ?_
      have eo : tkP σ A br nt t = none := by unfold tkP; rw [if_neg (by omega), if_neg (by omega), if_neg (by omega)]
      exact qi_mk (tkQ.n eo FrX.rf rfl rfl hS.a)
  · by_cases e33 : t.2.2.2 = 33
    · by_cases b9 : nt < 8
      · skip
        refine ex_iload_n (pc := 0) dX1_takeOpening_0 rfl ?_
        refine ex_bipush (pc := 1) (v := (nI 40)) dX1_takeOpening_1 (by decide) ?_
        refine bx_icmp_ne_t (pc := 3) (tgt := 28) dX1_takeOpening_3 (by decide) (fun q => absurd ((nI_eq (by omega) (by omega)).mp q) (by omega)) ?_
        refine ex_iload_n (pc := 28) dX1_takeOpening_28 rfl ?_
        refine ex_bipush (pc := 29) (v := (nI 33)) dX1_takeOpening_29 (by decide) ?_
        refine bx_icmp_ne_f (pc := 31) (tgt := 56) dX1_takeOpening_31 (by decide) (by rw [e33]) ?_
        refine ex_aload_n (pc := 34) dX1_takeOpening_34 rfl ?_
        refine ex_get (pc := 35) dX1_takeOpening_35 fl_X1_40 hS.1.1 rfl ?_
        refine ex_bipush (pc := 38) (v := (nI 8)) dX1_takeOpening_38 (by decide) ?_
        refine bx_icmp_ge_f (pc := 40) (tgt := 56) dX1_takeOpening_40 (by decide) (by rw [h9]; exact nI_ge b9 (by omega)) ?_
        refine ex_aload_n (pc := 43) dX1_takeOpening_43 rfl ?_
        refine ex_dup (pc := 44) dX1_takeOpening_44 rfl ?_
        refine ex_get (pc := 45) dX1_takeOpening_45 fl_X1_40 hS.1.1 rfl ?_
        rw [h9]
        refine ex_iconst (pc := 48) (v := (nI 1)) dX1_takeOpening_48 (by decide) ?_
        refine ex_iadd (pc := 49) dX1_takeOpening_49 ?_
        rw [nI_add]
        refine ex_put (pc := 50) dX1_takeOpening_50 fp_X1_40 hS.1.1 (Nat.le_of_ble_eq_true rfl) rfl rfl ?_
        rw [rd_9]
        have hS1 := hS.s (k := 9) (v := nI (nt + 1)) (by omega)
        refine ex_goto (pc := 53) (tgt := 58) dX1_takeOpening_53 (by decide) ?_
        refine ex_aload_n (pc := 58) dX1_takeOpening_58 rfl ?_
        refine ex_iload_n (pc := 59) dX1_takeOpening_59 rfl ?_
        refine cx_VL1v (pc := 60) dX1_takeOpening_60 lk_X1_140 hS1.1.1 rfl (Nat.le_of_ble_eq_true rfl) (Nat.le_of_ble_eq_true rfl) (by omega) (c_R_addOpen hS1 hc (by omega)) (fun h_60 q_60 => ?_)
        obtain ⟨hS2, f2⟩ := q_60
        refine ex_iconst (pc := 63) (v := 1) dX1_takeOpening_63 (by decide) ?_
        refine ex_zret dX1_takeOpening_64 rfl (by first | exact Or.inl rfl | exact Or.inr rfl | exact bI_01 _) ?_
        have eo : tkP σ A br nt t = some (33 :: σ, true, A, br, nt + 1) := by unfold tkP; rw [if_neg (by omega), if_neg (by omega), if_pos ⟨h2, e33, b9⟩]
        refine qi_mk (tkQ.s (r' := upd (upd r 9 (nI (nt + 1))) 5 (nI (σ.length + 1))) eo ((FrX.st (Or.inl rfl) (nscr (by omega))).tr f2) ((upd_ne (by decide)).trans (upd_ne (by decide))) ((upd_ne (by decide)).trans (upd_ne (by decide))) ⟨e33 ▸ hS2, ?_, ?_, ?_, ?_⟩)
        · rw [upd_ne (by decide), upd_ne (by decide)]; exact h7
        · rw [upd_ne (by decide), upd_ne (by decide)]; exact h8
        · rw [upd_ne (by decide), upd_eq]
        · rw [upd_ne (by decide), upd_ne (by decide)]; exact h10
      · skip
        refine ex_iload_n (pc := 0) dX1_takeOpening_0 rfl ?_
        refine ex_bipush (pc := 1) (v := (nI 40)) dX1_takeOpening_1 (by decide) ?_
        refine bx_icmp_ne_t (pc := 3) (tgt := 28) dX1_takeOpening_3 (by decide) (fun q => absurd ((nI_eq (by omega) (by omega)).mp q) (by omega)) ?_
        refine ex_iload_n (pc := 28) dX1_takeOpening_28 rfl ?_
        refine ex_bipush (pc := 29) (v := (nI 33)) dX1_takeOpening_29 (by decide) ?_
        refine bx_icmp_ne_f (pc := 31) (tgt := 56) dX1_takeOpening_31 (by decide) (by rw [e33]) ?_
        refine ex_aload_n (pc := 34) dX1_takeOpening_34 rfl ?_
        refine ex_get (pc := 35) dX1_takeOpening_35 fl_X1_40 hS.1.1 rfl ?_
        refine ex_bipush (pc := 38) (v := (nI 8)) dX1_takeOpening_38 (by decide) ?_
        refine bx_icmp_ge_t (pc := 40) (tgt := 56) dX1_takeOpening_40 (by decide) (by rw [h9]; exact nI_le (by omega) (by omega)) ?_
        refine ex_iconst (pc := 56) (v := 0) dX1_takeOpening_56 (by decide) ?_
        refine ex_zret dX1_takeOpening_57 rfl (by first | exact Or.inl rfl | exact Or.inr rfl | exact bI_01 _) ?_
        have eo : tkP σ A br nt t = none := by unfold tkP; rw [if_neg (by omega), if_neg (by omega), if_neg (by omega)]
        exact qi_mk (tkQ.n eo FrX.rf rfl rfl hS.a)
    · skip
      refine ex_iload_n (pc := 0) dX1_takeOpening_0 rfl ?_
      refine ex_bipush (pc := 1) (v := (nI 40)) dX1_takeOpening_1 (by decide) ?_
      refine bx_icmp_ne_t (pc := 3) (tgt := 28) dX1_takeOpening_3 (by decide) (fun q => absurd ((nI_eq (by omega) (by omega)).mp q) (by omega)) ?_
      refine ex_iload_n (pc := 28) dX1_takeOpening_28 rfl ?_
      refine ex_bipush (pc := 29) (v := (nI 33)) dX1_takeOpening_29 (by decide) ?_
      refine bx_icmp_ne_t (pc := 31) (tgt := 56) dX1_takeOpening_31 (by decide) (fun q => absurd ((nI_eq (by omega) (by omega)).mp q) (by omega)) ?_
      refine ex_iconst (pc := 56) (v := 0) dX1_takeOpening_56 (by decide) ?_
      refine ex_zret dX1_takeOpening_57 rfl (by first | exact Or.inl rfl | exact Or.inr rfl | exact bI_01 _) ?_
      have eo : tkP σ A br nt t = none := by unfold tkP; rw [if_neg (by omega), if_neg (by omega), if_neg (by omega)]
      exact qi_mk (tkQ.n eo FrX.rf rfl rfl hS.a)
set_option maxHeartbeats 4000000 in
set_option maxRecDepth 100000 in
theorem c_R_takeJoint {g : Gl} {d ks : Nat} {h : AH} {r tf : Nat → Int32} {tb : Nat → Nat} {tl ky : Nat} {σ : List Nat} {A : List Stq} {br nt n : Nat} (hB : TpOk tf tb) (hC : CfR g h r tf tl ky (σ, false, A, br, nt)) (hI : CfI (σ, false, A, br, nt) (n + 1)) {t : Tkn} {b : Nat} (h11 : r 11 = nI b) (hb : b < tl) (hj : rk t = rkc (tb b)) (h41 : (t.2.2.1 = 2 ∧ t.2.2.2 = 41) ↔ tb b = 41) (hv : ¬ rk t = 0 → t.2.2.2 = tb b) (hd : 3 ≤ d) : Ex g mX1_takeJoint d 0 ks 0 [some (.ref (g.1 + 40)), none, none] [] h (qi (tkQ g tf tl ky r (tkJ σ A br nt t) h)) := by
  obtain ⟨hS, h7, h8, h9, h10⟩ := hC
  obtain ⟨hl, i33, i40, i8, i9⟩ := hI
  have hl : A.length + σ.length + (n + 1) ≤ 96 := hl
  have h7 : r 7 = nI (lvs A) := h7
  have h8 : r 8 = nI br := h8
  have h9 : r 9 = nI nt := h9
  have h10 : r 10 = 0 := h10
  have hS : RdS g h r tf tl ky σ A := hS
  have i33 : cn 33 σ ≤ nt := i33
  have i40 : br ≤ cn 40 σ := i40
  have i8 : br ≤ 8 := i8
  have i9 : nt ≤ 8 := i9
  have htl := hS.1.2.2.2
  have hb8 := (hB b).2
  have hr5 := rkc_le (tb b)
  have hcn : br ≤ cn 40 (clo 0 σ A).1 := by rw [cn_clo rfl]; exact i40
  by_cases e41 : tb b = 41
  · by_cases hb0 : 0 < br
    · skip
      refine ex_aload_n (pc := 0) dX1_takeJoint_0 rfl ?_
      refine ex_get (pc := 1) dX1_takeJoint_1 fl_X1_9 hS.1.1 rfl ?_
      refine ex_aload_n (pc := 4) dX1_takeJoint_4 rfl ?_
      refine ex_get (pc := 5) dX1_takeJoint_5 fl_X1_47 hS.1.1 rfl ?_
      rw [h11]
      refine ex_ildn (k := b) (pc := 8) dX1_takeJoint_8 hS.1.2.1 rfl (by omega) (by decide) ?_
      rw [(hB b).1]
      refine sx_istore_n (pc := 9) dX1_takeJoint_9 rfl (by decide) ?_
      show Ex _ _ _ _ _ _ [_, _, _] _ _ _
      refine ex_iload_n (pc := 10) dX1_takeJoint_10 rfl ?_
      refine ex_bipush (pc := 11) (v := (nI 41)) dX1_takeJoint_11 (by decide) ?_
      refine bx_icmp_ne_f (pc := 13) (tgt := 54) dX1_takeJoint_13 (by decide) (by rw [e41]) ?_
      refine ex_aload_n (pc := 16) dX1_takeJoint_16 rfl ?_
      refine ex_get (pc := 17) dX1_takeJoint_17 fl_X1_37 hS.1.1 rfl ?_
      refine bx_if_le_f (pc := 20) (tgt := 54) dX1_takeJoint_20 (by decide) (by rw [h8]; exact nI_nle hb0 (by omega)) ?_
      refine ex_aload_n (pc := 23) dX1_takeJoint_23 rfl ?_
      refine ex_iconst (pc := 24) (v := (nI 0)) dX1_takeJoint_24 (by decide) ?_
      refine cx_VL1v (pc := 25) dX1_takeJoint_25 lk_X1_81 hS.1.1 rfl (Nat.le_of_ble_eq_true rfl) (Nat.le_of_ble_eq_true rfl) (by omega) (c_R_closeAbove (k := 0) (by omega) (by omega) σ A h r hS (by omega)) (fun h_25 q_25 => ?_)
      obtain ⟨rc, hcS, ck, cf⟩ := q_25
      obtain ⟨c0, σ0, ec⟩ : ∃ c0 σ0, (clo 0 σ A).1 = c0 :: σ0 := by
        cases e0 : (clo 0 σ A).1 with
        | nil => rw [e0] at hcn; have : br ≤ 0 := hcn; omega
        | cons c0 σ0 => exact ⟨c0, σ0, rfl⟩
      have hl0 := clo_len (k := 0) σ A
      rw [ec, List.length_cons] at hl0
      have h33 : cn 33 σ0 ≤ nt := by
        have := cn_clo (x := 33) (k := 0) rfl σ A
        rw [ec, cn] at this
        omega
      refine ex_aload_n (pc := 28) dX1_takeJoint_28 rfl ?_
      refine ex_dup (pc := 29) dX1_takeJoint_29 rfl ?_
      refine ex_get (pc := 30) dX1_takeJoint_30 fl_X1_28 hcS.1.1 rfl ?_
      rw [hcS.2.2.2.2.2, ec]
      refine ex_iconst (pc := 33) (v := (nI 1)) dX1_takeJoint_33 (by decide) ?_
      refine ex_isub (pc := 34) dX1_takeJoint_34 ?_
      rw [List.length_cons, nI_sub (by omega), Nat.add_sub_cancel]
      refine ex_put (pc := 35) dX1_takeJoint_35 fp_X1_28 hcS.1.1 (Nat.le_of_ble_eq_true rfl) rfl rfl ?_
      rw [rd_5]
      have hpS := RdS.p (ec ▸ hcS)
      refine ex_aload_n (pc := 38) dX1_takeJoint_38 rfl ?_
      refine ex_dup (pc := 39) dX1_takeJoint_39 rfl ?_
      refine ex_get (pc := 40) dX1_takeJoint_40 fl_X1_37 hpS.1.1 rfl ?_
      rw [upd_ne (by decide), ck 8 (by decide) (by decide), h8]
      refine ex_iconst (pc := 43) (v := (nI 1)) dX1_takeJoint_43 (by decide) ?_
      refine ex_isub (pc := 44) dX1_takeJoint_44 ?_
      rw [nI_sub (by omega)]
      refine ex_put (pc := 45) dX1_takeJoint_45 fp_X1_37 hpS.1.1 (Nat.le_of_ble_eq_true rfl) rfl rfl ?_
      rw [rd_8]
      have hqS := hpS.s (k := 8) (v := nI (br - 1)) (by omega)
      refine ex_aload_n (pc := 48) dX1_takeJoint_48 rfl ?_
      refine cx_VL0v (pc := 49) dX1_takeJoint_49 lk_X1_131 hqS.1.1 rfl (Nat.le_of_ble_eq_true rfl) (Nat.le_of_ble_eq_true rfl) (by omega) (c_R_endPiece hqS (k := nt) (by omega) (by rw [upd_ne (by decide), upd_ne (by decide), ck 9 (by decide) (by decide)]; exact h9) h33 (by omega)) (fun h_49 q_49 => ?_)
      obtain ⟨re, heS, e9, e10, ek, ef⟩ := q_49
      refine ex_iconst (pc := 52) (v := 1) dX1_takeJoint_52 (by decide) ?_
      refine ex_zret dX1_takeJoint_53 rfl (by first | exact Or.inl rfl | exact Or.inr rfl | exact bI_01 _) ?_
      have eo : tkJ σ A br nt t = some ((bng σ0 (clo 0 σ A).2 nt).1, false, (bng σ0 (clo 0 σ A).2 nt).2.1, br - 1, (bng σ0 (clo 0 σ A).2 nt).2.2) := by
        unfold tkJ
        rw [if_pos ⟨(h41.mpr e41).1, (h41.mpr e41).2, hb0⟩, ec]
        rfl
      have hf := bng_f σ0 (clo 0 σ A).2 nt
      refine qi_mk (tkQ.s (r' := re) eo (((cf.tr (FrX.st (Or.inl rfl) (nscr (by omega)))).tr (FrX.st (Or.inl rfl) (nscr (by omega)))).tr ef) ?_ ?_ ⟨heS, ?_, ?_, e9, e10⟩)
      · rw [ek 11 (by decide) (by decide) (by decide) (by decide), upd_ne (by decide), upd_ne (by decide)]; exact ck 11 (by decide) (by decide)
      · rw [ek 12 (by decide) (by decide) (by decide) (by decide), upd_ne (by decide), upd_ne (by decide)]; exact ck 12 (by decide) (by decide)
      · rw [ek 7 (by decide) (by decide) (by decide) (by decide), upd_ne (by decide), upd_ne (by decide), ck 7 (by decide) (by decide), h7]
        show nI (lvs A) = nI (lvs (bng σ0 (clo 0 σ A).2 nt).2.1)
        rw [hf.2.1, clo_lvs]
      · rw [ek 8 (by decide) (by decide) (by decide) (by decide), upd_eq]
    · skip
      refine ex_aload_n (pc := 0) dX1_takeJoint_0 rfl ?_
      refine ex_get (pc := 1) dX1_takeJoint_1 fl_X1_9 hS.1.1 rfl ?_
      refine ex_aload_n (pc := 4) dX1_takeJoint_4 rfl ?_
      refine ex_get (pc := 5) dX1_takeJoint_5 fl_X1_47 hS.1.1 rfl ?_
      rw [h11]
      refine ex_ildn (k := b) (pc := 8) dX1_takeJoint_8 hS.1.2.1 rfl (by omega) (by decide) ?_
      rw [(hB b).1]
      refine sx_istore_n (pc := 9) dX1_takeJoint_9 rfl (by decide) ?_
      show Ex _ _ _ _ _ _ [_, _, _] _ _ _
      refine ex_iload_n (pc := 10) dX1_takeJoint_10 rfl ?_
      refine ex_bipush (pc := 11) (v := (nI 41)) dX1_takeJoint_11 (by decide) ?_
      refine bx_icmp_ne_f (pc := 13) (tgt := 54) dX1_takeJoint_13 (by decide) (by rw [e41]) ?_
      refine ex_aload_n (pc := 16) dX1_takeJoint_16 rfl ?_
      refine ex_get (pc := 17) dX1_takeJoint_17 fl_X1_37 hS.1.1 rfl ?_
      refine bx_if_le_t (pc := 20) (tgt := 54) dX1_takeJoint_20 (by decide) (by rw [h8, show br = 0 by omega]; decide) ?_
      refine ex_iload_n (pc := 54) dX1_takeJoint_54 rfl ?_
      refine cx_SL1i (pc := 55) dX1_takeJoint_55 lk_X1_143 rfl (Nat.le_of_ble_eq_true rfl) (Nat.le_of_ble_eq_true rfl) (by omega) (c_R_rankOf hb8) (fun h_55 x_55 q_55 => ?_)
      obtain ⟨e_55, f_55⟩ := q_55
      rw [e_55, f_55]
      refine sx_istore_n (pc := 58) dX1_takeJoint_58 rfl (by decide) ?_
      show Ex _ _ _ _ _ _ [_, _, _] _ _ _
      refine ex_iload_n (pc := 59) dX1_takeJoint_59 rfl ?_
      refine bx_if_ne_f (pc := 60) (tgt := 65) dX1_takeJoint_60 (by decide) (by rw [e41]; rfl) ?_
      refine ex_iconst (pc := 63) (v := 0) dX1_takeJoint_63 (by decide) ?_
      refine ex_zret dX1_takeJoint_64 rfl (by first | exact Or.inl rfl | exact Or.inr rfl | exact bI_01 _) ?_
      have eo : tkJ σ A br nt t = none := by unfold tkJ; rw [if_neg (fun q => hb0 q.2.2), if_pos (by rw [hj, e41]; rfl)]
      exact qi_mk (tkQ.n eo FrX.rf rfl rfl hS.a)
  · have n41 := e41
    by_cases r0 : rkc (tb b) = 0
    · skip
      refine ex_aload_n (pc := 0) dX1_takeJoint_0 rfl ?_
      refine ex_get (pc := 1) dX1_takeJoint_1 fl_X1_9 hS.1.1 rfl ?_
      refine ex_aload_n (pc := 4) dX1_takeJoint_4 rfl ?_
      refine ex_get (pc := 5) dX1_takeJoint_5 fl_X1_47 hS.1.1 rfl ?_
      rw [h11]
      refine ex_ildn (k := b) (pc := 8) dX1_takeJoint_8 hS.1.2.1 rfl (by omega) (by decide) ?_
      rw [(hB b).1]
      refine sx_istore_n (pc := 9) dX1_takeJoint_9 rfl (by decide) ?_
      show Ex _ _ _ _ _ _ [_, _, _] _ _ _
      refine ex_iload_n (pc := 10) dX1_takeJoint_10 rfl ?_
      refine ex_bipush (pc := 11) (v := (nI 41)) dX1_takeJoint_11 (by decide) ?_
      refine bx_icmp_ne_t (pc := 13) (tgt := 54) dX1_takeJoint_13 (by decide) (fun q => absurd ((nI_eq (by omega) (by omega)).mp q) n41) ?_
      refine ex_iload_n (pc := 54) dX1_takeJoint_54 rfl ?_
      refine cx_SL1i (pc := 55) dX1_takeJoint_55 lk_X1_143 rfl (Nat.le_of_ble_eq_true rfl) (Nat.le_of_ble_eq_true rfl) (by omega) (c_R_rankOf hb8) (fun h_55 x_55 q_55 => ?_)
      obtain ⟨e_55, f_55⟩ := q_55
      rw [e_55, f_55]
      refine sx_istore_n (pc := 58) dX1_takeJoint_58 rfl (by decide) ?_
      show Ex _ _ _ _ _ _ [_, _, _] _ _ _
      refine ex_iload_n (pc := 59) dX1_takeJoint_59 rfl ?_
      refine bx_if_ne_f (pc := 60) (tgt := 65) dX1_takeJoint_60 (by decide) (by rw [r0]; rfl) ?_
      refine ex_iconst (pc := 63) (v := 0) dX1_takeJoint_63 (by decide) ?_
      refine ex_zret dX1_takeJoint_64 rfl (by first | exact Or.inl rfl | exact Or.inr rfl | exact bI_01 _) ?_
      have eo : tkJ σ A br nt t = none := by unfold tkJ; rw [if_neg (fun q => n41 (h41.mp ⟨q.1, q.2.1⟩)), if_pos (by rw [hj]; exact r0)]
      exact qi_mk (tkQ.n eo FrX.rf rfl rfl hS.a)
    · by_cases r3 : rkc (tb b) = 3
      · by_cases c3 : rkc ((clo 3 σ A).1.headD 0) = 3
        · skip
          refine ex_aload_n (pc := 0) dX1_takeJoint_0 rfl ?_
          refine ex_get (pc := 1) dX1_takeJoint_1 fl_X1_9 hS.1.1 rfl ?_
          refine ex_aload_n (pc := 4) dX1_takeJoint_4 rfl ?_
          refine ex_get (pc := 5) dX1_takeJoint_5 fl_X1_47 hS.1.1 rfl ?_
          rw [h11]
          refine ex_ildn (k := b) (pc := 8) dX1_takeJoint_8 hS.1.2.1 rfl (by omega) (by decide) ?_
          rw [(hB b).1]
          refine sx_istore_n (pc := 9) dX1_takeJoint_9 rfl (by decide) ?_
          show Ex _ _ _ _ _ _ [_, _, _] _ _ _
          refine ex_iload_n (pc := 10) dX1_takeJoint_10 rfl ?_
          refine ex_bipush (pc := 11) (v := (nI 41)) dX1_takeJoint_11 (by decide) ?_
          refine bx_icmp_ne_t (pc := 13) (tgt := 54) dX1_takeJoint_13 (by decide) (fun q => absurd ((nI_eq (by omega) (by omega)).mp q) n41) ?_
          refine ex_iload_n (pc := 54) dX1_takeJoint_54 rfl ?_
          refine cx_SL1i (pc := 55) dX1_takeJoint_55 lk_X1_143 rfl (Nat.le_of_ble_eq_true rfl) (Nat.le_of_ble_eq_true rfl) (by omega) (c_R_rankOf hb8) (fun h_55 x_55 q_55 => ?_)
          obtain ⟨e_55, f_55⟩ := q_55
          rw [e_55, f_55]
          refine sx_istore_n (pc := 58) dX1_takeJoint_58 rfl (by decide) ?_
          show Ex _ _ _ _ _ _ [_, _, _] _ _ _
          refine ex_iload_n (pc := 59) dX1_takeJoint_59 rfl ?_
          refine bx_if_ne_t (pc := 60) (tgt := 65) dX1_takeJoint_60 (by decide) (fun q => r0 ((nI_eq (by omega) (by omega)).mp q)) ?_
          refine ex_iload_n (pc := 65) dX1_takeJoint_65 rfl ?_
          refine ex_iconst (pc := 66) (v := (nI 3)) dX1_takeJoint_66 (by decide) ?_
          refine bx_icmp_ne_f (pc := 67) (tgt := 88) dX1_takeJoint_67 (by decide) (by rw [r3]) ?_
          refine ex_aload_n (pc := 70) dX1_takeJoint_70 rfl ?_
          refine ex_iconst (pc := 71) (v := (nI 3)) dX1_takeJoint_71 (by decide) ?_
          refine cx_VL1v (pc := 72) dX1_takeJoint_72 lk_X1_81 hS.1.1 rfl (Nat.le_of_ble_eq_true rfl) (Nat.le_of_ble_eq_true rfl) (by omega) (c_R_closeAbove (k := 3) (by omega) (by omega) σ A h r hS (by omega)) (fun h_72 q_72 => ?_)
          obtain ⟨rc, hcS, ck, cf⟩ := q_72
          have hl0 := clo_len (k := 3) σ A
          refine ex_aload_n (pc := 75) dX1_takeJoint_75 rfl ?_
          refine cx_VL0i (pc := 76) dX1_takeJoint_76 lk_X1_146 hcS.1.1 rfl (Nat.le_of_ble_eq_true rfl) (Nat.le_of_ble_eq_true rfl) (by omega) (c_R_lastOpen hcS (by omega) (by omega)) (fun h_76 x_76 q_76 => ?_)
          obtain ⟨e_76, f_76⟩ := q_76
          rw [e_76, f_76]
          refine cx_SL1i (pc := 79) dX1_takeJoint_79 lk_X1_143 rfl (Nat.le_of_ble_eq_true rfl) (Nat.le_of_ble_eq_true rfl) (by omega) (c_R_rankOf hcS.hd) (fun h_79 x_79 q_79 => ?_)
          obtain ⟨e_79, f_79⟩ := q_79
          rw [e_79, f_79]
          refine ex_iconst (pc := 82) (v := (nI 3)) dX1_takeJoint_82 (by decide) ?_
          refine bx_icmp_ne_f (pc := 83) (tgt := 95) dX1_takeJoint_83 (by decide) (by rw [c3]) ?_
          refine ex_iconst (pc := 86) (v := 0) dX1_takeJoint_86 (by decide) ?_
          refine ex_zret dX1_takeJoint_87 rfl (by first | exact Or.inl rfl | exact Or.inr rfl | exact bI_01 _) ?_
          have eo : tkJ σ A br nt t = none := by unfold tkJ; rw [if_neg (fun q => n41 (h41.mp ⟨q.1, q.2.1⟩)), if_neg (by omega), if_pos (by omega), if_pos c3]
          exact qi_mk (tkQ.n (r' := rc) eo cf (ck 11 (by decide) (by decide)) (ck 12 (by decide) (by decide)) hcS.a)
        · skip
          refine ex_aload_n (pc := 0) dX1_takeJoint_0 rfl ?_
          refine ex_get (pc := 1) dX1_takeJoint_1 fl_X1_9 hS.1.1 rfl ?_
          refine ex_aload_n (pc := 4) dX1_takeJoint_4 rfl ?_
          refine ex_get (pc := 5) dX1_takeJoint_5 fl_X1_47 hS.1.1 rfl ?_
          rw [h11]
          refine ex_ildn (k := b) (pc := 8) dX1_takeJoint_8 hS.1.2.1 rfl (by omega) (by decide) ?_
          rw [(hB b).1]
          refine sx_istore_n (pc := 9) dX1_takeJoint_9 rfl (by decide) ?_
          show Ex _ _ _ _ _ _ [_, _, _] _ _ _
          refine ex_iload_n (pc := 10) dX1_takeJoint_10 rfl ?_
          refine ex_bipush (pc := 11) (v := (nI 41)) dX1_takeJoint_11 (by decide) ?_
          refine bx_icmp_ne_t (pc := 13) (tgt := 54) dX1_takeJoint_13 (by decide) (fun q => absurd ((nI_eq (by omega) (by omega)).mp q) n41) ?_
          refine ex_iload_n (pc := 54) dX1_takeJoint_54 rfl ?_
          refine cx_SL1i (pc := 55) dX1_takeJoint_55 lk_X1_143 rfl (Nat.le_of_ble_eq_true rfl) (Nat.le_of_ble_eq_true rfl) (by omega) (c_R_rankOf hb8) (fun h_55 x_55 q_55 => ?_)
          obtain ⟨e_55, f_55⟩ := q_55
          rw [e_55, f_55]
          refine sx_istore_n (pc := 58) dX1_takeJoint_58 rfl (by decide) ?_
          show Ex _ _ _ _ _ _ [_, _, _] _ _ _
          refine ex_iload_n (pc := 59) dX1_takeJoint_59 rfl ?_
          refine bx_if_ne_t (pc := 60) (tgt := 65) dX1_takeJoint_60 (by decide) (fun q => r0 ((nI_eq (by omega) (by omega)).mp q)) ?_
          refine ex_iload_n (pc := 65) dX1_takeJoint_65 rfl ?_
          refine ex_iconst (pc := 66) (v := (nI 3)) dX1_takeJoint_66 (by decide) ?_
          refine bx_icmp_ne_f (pc := 67) (tgt := 88) dX1_takeJoint_67 (by decide) (by rw [r3]) ?_
          refine ex_aload_n (pc := 70) dX1_takeJoint_70 rfl ?_
          refine ex_iconst (pc := 71) (v := (nI 3)) dX1_takeJoint_71 (by decide) ?_
          refine cx_VL1v (pc := 72) dX1_takeJoint_72 lk_X1_81 hS.1.1 rfl (Nat.le_of_ble_eq_true rfl) (Nat.le_of_ble_eq_true rfl) (by omega) (c_R_closeAbove (k := 3) (by omega) (by omega) σ A h r hS (by omega)) (fun h_72 q_72 => ?_)
          obtain ⟨rc, hcS, ck, cf⟩ := q_72
          have hl0 := clo_len (k := 3) σ A
          refine ex_aload_n (pc := 75) dX1_takeJoint_75 rfl ?_
          refine cx_VL0i (pc := 76) dX1_takeJoint_76 lk_X1_146 hcS.1.1 rfl (Nat.le_of_ble_eq_true rfl) (Nat.le_of_ble_eq_true rfl) (by omega) (c_R_lastOpen hcS (by omega) (by omega)) (fun h_76 x_76 q_76 => ?_)
          obtain ⟨e_76, f_76⟩ := q_76
          rw [e_76, f_76]
          refine cx_SL1i (pc := 79) dX1_takeJoint_79 lk_X1_143 rfl (Nat.le_of_ble_eq_true rfl) (Nat.le_of_ble_eq_true rfl) (by omega) (c_R_rankOf hcS.hd) (fun h_79 x_79 q_79 => ?_)
          obtain ⟨e_79, f_79⟩ := q_79
          rw [e_79, f_79]
          refine ex_iconst (pc := 82) (v := (nI 3)) dX1_takeJoint_82 (by decide) ?_
          refine bx_icmp_ne_t (pc := 83) (tgt := 95) dX1_takeJoint_83 (by decide) (fun q => c3 ((nI_eq (by have := rkc_le ((clo 3 σ A).1.headD 0); omega) (by omega)).mp q)) ?_
          refine ex_aload_n (pc := 95) dX1_takeJoint_95 rfl ?_
          refine ex_iload_n (pc := 96) dX1_takeJoint_96 rfl ?_
          refine cx_VL1v (pc := 97) dX1_takeJoint_97 lk_X1_140 hcS.1.1 rfl (Nat.le_of_ble_eq_true rfl) (Nat.le_of_ble_eq_true rfl) (by omega) (c_R_addOpen hcS hb8 (by omega)) (fun h_97 q_97 => ?_)
          obtain ⟨haS, af⟩ := q_97
          refine ex_aload_n (pc := 100) dX1_takeJoint_100 rfl ?_
          refine ex_iconst (pc := 101) (v := (nI 1)) dX1_takeJoint_101 (by decide) ?_
          refine ex_put (pc := 102) dX1_takeJoint_102 fp_X1_43 haS.1.1 (Nat.le_of_ble_eq_true rfl) rfl rfl ?_
          rw [rd_10]
          refine ex_iconst (pc := 105) (v := 1) dX1_takeJoint_105 (by decide) ?_
          refine ex_zret dX1_takeJoint_106 rfl (by first | exact Or.inl rfl | exact Or.inr rfl | exact bI_01 _) ?_
          have eo : tkJ σ A br nt t = some (tb b :: (clo 3 σ A).1, true, (clo 3 σ A).2, br, nt) := by
            unfold tkJ; rw [if_neg (fun q => n41 (h41.mp ⟨q.1, q.2.1⟩)), if_neg (by omega), if_pos (by omega), if_neg c3, hv (by omega)]
          refine qi_mk (tkQ.s (r' := upd (upd rc 5 (nI ((clo 3 σ A).1.length + 1))) 10 (nI 1)) eo ((cf.tr af).tr (FrX.st (Or.inl rfl) (nscr (by omega)))) ?_ ?_ ⟨haS.s (k := 10) (by omega), ?_, ?_, ?_, upd_eq⟩)
          · rw [upd_ne (by decide), upd_ne (by decide)]; exact ck 11 (by decide) (by decide)
          · rw [upd_ne (by decide), upd_ne (by decide)]; exact ck 12 (by decide) (by decide)
          · rw [upd_ne (by decide), upd_ne (by decide), ck 7 (by decide) (by decide), h7]
            show nI (lvs A) = nI (lvs (clo 3 σ A).2)
            rw [clo_lvs]
          · rw [upd_ne (by decide), upd_ne (by decide), ck 8 (by decide) (by decide), h8]
          · rw [upd_ne (by decide), upd_ne (by decide), ck 9 (by decide) (by decide), h9]
      · skip
        refine ex_aload_n (pc := 0) dX1_takeJoint_0 rfl ?_
        refine ex_get (pc := 1) dX1_takeJoint_1 fl_X1_9 hS.1.1 rfl ?_
        refine ex_aload_n (pc := 4) dX1_takeJoint_4 rfl ?_
        refine ex_get (pc := 5) dX1_takeJoint_5 fl_X1_47 hS.1.1 rfl ?_
        rw [h11]
        refine ex_ildn (k := b) (pc := 8) dX1_takeJoint_8 hS.1.2.1 rfl (by omega) (by decide) ?_
        rw [(hB b).1]
        refine sx_istore_n (pc := 9) dX1_takeJoint_9 rfl (by decide) ?_
        show Ex _ _ _ _ _ _ [_, _, _] _ _ _
        refine ex_iload_n (pc := 10) dX1_takeJoint_10 rfl ?_
        refine ex_bipush (pc := 11) (v := (nI 41)) dX1_takeJoint_11 (by decide) ?_
        refine bx_icmp_ne_t (pc := 13) (tgt := 54) dX1_takeJoint_13 (by decide) (fun q => absurd ((nI_eq (by omega) (by omega)).mp q) n41) ?_
        refine ex_iload_n (pc := 54) dX1_takeJoint_54 rfl ?_
        refine cx_SL1i (pc := 55) dX1_takeJoint_55 lk_X1_143 rfl (Nat.le_of_ble_eq_true rfl) (Nat.le_of_ble_eq_true rfl) (by omega) (c_R_rankOf hb8) (fun h_55 x_55 q_55 => ?_)
        obtain ⟨e_55, f_55⟩ := q_55
        rw [e_55, f_55]
        refine sx_istore_n (pc := 58) dX1_takeJoint_58 rfl (by decide) ?_
        show Ex _ _ _ _ _ _ [_, _, _] _ _ _
        refine ex_iload_n (pc := 59) dX1_takeJoint_59 rfl ?_
        refine bx_if_ne_t (pc := 60) (tgt := 65) dX1_takeJoint_60 (by decide) (fun q => r0 ((nI_eq (by omega) (by omega)).mp q)) ?_
        refine ex_iload_n (pc := 65) dX1_takeJoint_65 rfl ?_
        refine ex_iconst (pc := 66) (v := (nI 3)) dX1_takeJoint_66 (by decide) ?_
        refine bx_icmp_ne_t (pc := 67) (tgt := 88) dX1_takeJoint_67 (by decide) (fun q => r3 ((nI_eq (by omega) (by omega)).mp q)) ?_
        refine ex_aload_n (pc := 88) dX1_takeJoint_88 rfl ?_
        refine ex_iload_n (pc := 89) dX1_takeJoint_89 rfl ?_
        refine ex_iconst (pc := 90) (v := (nI 1)) dX1_takeJoint_90 (by decide) ?_
        refine ex_isub (pc := 91) dX1_takeJoint_91 ?_
        rw [nI_sub (by omega)]
        refine cx_VL1v (pc := 92) dX1_takeJoint_92 lk_X1_81 hS.1.1 rfl (Nat.le_of_ble_eq_true rfl) (Nat.le_of_ble_eq_true rfl) (by omega) (c_R_closeAbove (k := (rkc (tb b) - 1)) (by omega) (by omega) σ A h r hS (by omega)) (fun h_92 q_92 => ?_)
        obtain ⟨rc, hcS, ck, cf⟩ := q_92
        have hl0 := clo_len (k := (rkc (tb b) - 1)) σ A
        refine ex_aload_n (pc := 95) dX1_takeJoint_95 rfl ?_
        refine ex_iload_n (pc := 96) dX1_takeJoint_96 rfl ?_
        refine cx_VL1v (pc := 97) dX1_takeJoint_97 lk_X1_140 hcS.1.1 rfl (Nat.le_of_ble_eq_true rfl) (Nat.le_of_ble_eq_true rfl) (by omega) (c_R_addOpen hcS hb8 (by omega)) (fun h_97 q_97 => ?_)
        obtain ⟨haS, af⟩ := q_97
        refine ex_aload_n (pc := 100) dX1_takeJoint_100 rfl ?_
        refine ex_iconst (pc := 101) (v := (nI 1)) dX1_takeJoint_101 (by decide) ?_
        refine ex_put (pc := 102) dX1_takeJoint_102 fp_X1_43 haS.1.1 (Nat.le_of_ble_eq_true rfl) rfl rfl ?_
        rw [rd_10]
        refine ex_iconst (pc := 105) (v := 1) dX1_takeJoint_105 (by decide) ?_
        refine ex_zret dX1_takeJoint_106 rfl (by first | exact Or.inl rfl | exact Or.inr rfl | exact bI_01 _) ?_
        have eo : tkJ σ A br nt t = some (tb b :: (clo (rkc (tb b) - 1) σ A).1, true, (clo (rkc (tb b) - 1) σ A).2, br, nt) := by
          unfold tkJ; rw [if_neg (fun q => n41 (h41.mp ⟨q.1, q.2.1⟩)), if_neg (by omega), if_neg (by omega), hj, hv (by omega)]
        refine qi_mk (tkQ.s (r' := upd (upd rc 5 (nI ((clo (rkc (tb b) - 1) σ A).1.length + 1))) 10 (nI 1)) eo ((cf.tr af).tr (FrX.st (Or.inl rfl) (nscr (by omega)))) ?_ ?_ ⟨haS.s (k := 10) (by omega), ?_, ?_, ?_, upd_eq⟩)
        · rw [upd_ne (by decide), upd_ne (by decide)]; exact ck 11 (by decide) (by decide)
        · rw [upd_ne (by decide), upd_ne (by decide)]; exact ck 12 (by decide) (by decide)
        · rw [upd_ne (by decide), upd_ne (by decide), ck 7 (by decide) (by decide), h7]
          show nI (lvs A) = nI (lvs (clo (rkc (tb b) - 1) σ A).2)
          rw [clo_lvs]
        · rw [upd_ne (by decide), upd_ne (by decide), ck 8 (by decide) (by decide), h8]
        · rw [upd_ne (by decide), upd_ne (by decide), ck 9 (by decide) (by decide), h9]

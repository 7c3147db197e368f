/-! the class's reader: open signs and steps -/
def stkR (fo : Nat → Int32) : List Nat → Prop
  | [] => True
  | c :: σ => fo σ.length = nI c ∧ c < 256 ∧ stkR fo σ
def encQ (ky : Nat) (x : Stq) : Int32 := encS ky (nI x.1) (nI x.2)
def stpR (ky : Nat) (fs : Nat → Int32) (A : List Stq) : Prop := ∀ i, i < A.length → fs i = encQ ky (A.getD i (0, 0))
def RdS (g : Gl) (h : AH) (r tf : Nat → Int32) (tl ky : Nat) (σ : List Nat) (A : List Stq) : Prop := RdT g h r tf tl ∧ r 6 = nI ky ∧ (∃ fs, h[42]? = some (ia g 96 fs) ∧ stpR ky fs A) ∧ r 3 = nI A.length ∧ (∃ fo, h[43]? = some (ia g 96 fo) ∧ stkR fo σ) ∧ r 5 = nI σ.length
theorem stkR.up {fo : Nat → Int32} {v : Int32} : ∀ {σ : List Nat} {n : Nat}, σ.length ≤ n → stkR fo σ → stkR (upd fo n v) σ := by
  intro σ
  induction σ with
  | nil => intro n _ _; trivial
  | cons c σ ih =>
    intro n hn h
    rw [List.length_cons] at hn
    exact ⟨(upd_ne (by omega)).trans h.1, h.2.1, ih (by omega) h.2.2⟩
theorem stpR.up {ky : Nat} {fs : Nat → Int32} {A : List Stq} {x : Stq} (h : stpR ky fs A) : stpR ky (upd fs A.length (encQ ky x)) (A ++ [x]) := by
  intro i hi
  rw [List.length_append, List.length_singleton] at hi
  by_cases e : i = A.length
  · rw [e, upd_eq, getD_e]
  · rw [upd_ne e, h i (by omega), getD_l (by omega)]
def cn (c : Nat) : List Nat → Nat
  | [] => 0
  | x :: σ => (if x = c then 1 else 0) + cn c σ
theorem enc_2 {ky c : Nat} : encQ ky (2, c) = -(nI c) := by
  show (if nI 2 = nI 0 then nI c else if nI 2 = nI 1 then (if nI c = nI (ltr ky 0) then -1 else if nI c = nI (ltr ky 1) then -2 else -3) else -(nI c)) = _
  rw [if_neg (by decide), if_neg (by decide)]
set_option maxHeartbeats 4000000 in
set_option maxRecDepth 100000 in
theorem c_R_rankOf {g : Gl} {d ks : Nat} {h : AH} {c : Nat} (hc : c < 256) : Ex g mX1_rankOf d 0 ks 0 [some (.int (nI c))] [] h (qi (fun h' x => h' = h ∧ x = nI (rkc c))) := by
  refine ex_iload_n (pc := 0) dX1_rankOf_0 rfl ?_
  refine ex_lsw (pc := 1) (ks0 := [38, 42, 43, 45, 47, 60, 61, 62, 124]) (tg := fun j => [86, 92, 90, 90, 92, 88, 88, 88, 84].getD j 0) (td := 94) dX1_rankOf_1 (by decide +kernel) (by decide +kernel) (by decide) (fun j_1 hj_1 c_1 => ?_) (fun c_1 => ?_)
  · rcases (show j_1 = 0 ∨ j_1 = 1 ∨ j_1 = 2 ∨ j_1 = 3 ∨ j_1 = 4 ∨ j_1 = 5 ∨ j_1 = 6 ∨ j_1 = 7 ∨ j_1 = 8 by simp only [List.length_cons, List.length_nil] at hj_1; omega) with rfl | rfl | rfl | rfl | rfl | rfl | rfl | rfl | rfl
    · show Ex _ _ _ _ _ 86 _ _ _ _
      have c_1 : _ = nI 38 := c_1
      refine ex_iconst (pc := 86) (v := (nI 2)) dX1_rankOf_86 (by decide) ?_
      refine ex_ret dX1_rankOf_87 rfl ?_
      have e := (nI_eq (by omega) (by omega)).mp c_1
      subst e
      exact qi_mk ⟨rfl, by decide⟩
    · show Ex _ _ _ _ _ 92 _ _ _ _
      have c_1 : _ = nI 42 := c_1
      refine ex_iconst (pc := 92) (v := (nI 5)) dX1_rankOf_92 (by decide) ?_
      refine ex_ret dX1_rankOf_93 rfl ?_
      have e := (nI_eq (by omega) (by omega)).mp c_1
      subst e
      exact qi_mk ⟨rfl, by decide⟩
    · show Ex _ _ _ _ _ 90 _ _ _ _
      have c_1 : _ = nI 43 := c_1
      refine ex_iconst (pc := 90) (v := (nI 4)) dX1_rankOf_90 (by decide) ?_
      refine ex_ret dX1_rankOf_91 rfl ?_
      have e := (nI_eq (by omega) (by omega)).mp c_1
      subst e
      exact qi_mk ⟨rfl, by decide⟩
    · show Ex _ _ _ _ _ 90 _ _ _ _
      have c_1 : _ = nI 45 := c_1
      refine ex_iconst (pc := 90) (v := (nI 4)) dX1_rankOf_90 (by decide) ?_
      refine ex_ret dX1_rankOf_91 rfl ?_
      have e := (nI_eq (by omega) (by omega)).mp c_1
      subst e
      exact qi_mk ⟨rfl, by decide⟩
    · show Ex _ _ _ _ _ 92 _ _ _ _
      have c_1 : _ = nI 47 := c_1
      refine ex_iconst (pc := 92) (v := (nI 5)) dX1_rankOf_92 (by decide) ?_
      refine ex_ret dX1_rankOf_93 rfl ?_
      have e := (nI_eq (by omega) (by omega)).mp c_1
      subst e
      exact qi_mk ⟨rfl, by decide⟩
    · show Ex _ _ _ _ _ 88 _ _ _ _
      have c_1 : _ = nI 60 := c_1
      refine ex_iconst (pc := 88) (v := (nI 3)) dX1_rankOf_88 (by decide) ?_
      refine ex_ret dX1_rankOf_89 rfl ?_
      have e := (nI_eq (by omega) (by omega)).mp c_1
      subst e
      exact qi_mk ⟨rfl, by decide⟩
    · show Ex _ _ _ _ _ 88 _ _ _ _
      have c_1 : _ = nI 61 := c_1
      refine ex_iconst (pc := 88) (v := (nI 3)) dX1_rankOf_88 (by decide) ?_
      refine ex_ret dX1_rankOf_89 rfl ?_
      have e := (nI_eq (by omega) (by omega)).mp c_1
      subst e
      exact qi_mk ⟨rfl, by decide⟩
    · show Ex _ _ _ _ _ 88 _ _ _ _
      have c_1 : _ = nI 62 := c_1
      refine ex_iconst (pc := 88) (v := (nI 3)) dX1_rankOf_88 (by decide) ?_
      refine ex_ret dX1_rankOf_89 rfl ?_
      have e := (nI_eq (by omega) (by omega)).mp c_1
      subst e
      exact qi_mk ⟨rfl, by decide⟩
    · show Ex _ _ _ _ _ 84 _ _ _ _
      have c_1 : _ = nI 124 := c_1
      refine ex_iconst (pc := 84) (v := 1) dX1_rankOf_84 (by decide) ?_
      refine ex_ret dX1_rankOf_85 rfl ?_
      have e := (nI_eq (by omega) (by omega)).mp c_1
      subst e
      exact qi_mk ⟨rfl, by decide⟩
  · skip
    have c_1_38 : ¬ _ = nI 38 := c_1 0 (by decide)
    have c_1_42 : ¬ _ = nI 42 := c_1 1 (by decide)
    have c_1_43 : ¬ _ = nI 43 := c_1 2 (by decide)
    have c_1_45 : ¬ _ = nI 45 := c_1 3 (by decide)
    have c_1_47 : ¬ _ = nI 47 := c_1 4 (by decide)
    have c_1_60 : ¬ _ = nI 60 := c_1 5 (by decide)
    have c_1_61 : ¬ _ = nI 61 := c_1 6 (by decide)
    have c_1_62 : ¬ _ = nI 62 := c_1 7 (by decide)
    have c_1_124 : ¬ _ = nI 124 := c_1 8 (by decide)
    refine ex_iconst (pc := 94) (v := 0) dX1_rankOf_94 (by decide) ?_
    refine ex_ret dX1_rankOf_95 rfl ?_
    have nq : ∀ k, k < 256 → ¬ nI c = nI k → ¬ c = k := fun k _ q y => q (by rw [y])
    refine qi_mk ⟨rfl, ?_⟩
    have e : rkc c = 0 := by
      have := nq 38 (by decide) c_1_38
      have := nq 42 (by decide) c_1_42
      have := nq 43 (by decide) c_1_43
      have := nq 45 (by decide) c_1_45
      have := nq 47 (by decide) c_1_47
      have := nq 60 (by decide) c_1_60
      have := nq 61 (by decide) c_1_61
      have := nq 62 (by decide) c_1_62
      have := nq 124 (by decide) c_1_124
      unfold rkc
      (repeat' split) <;> omega
    rw [e]
    all_goals rfl
set_option maxHeartbeats 4000000 in
set_option maxRecDepth 100000 in
theorem c_R_lastOpen {g : Gl} {d ks : Nat} {h : AH} {r tf : Nat → Int32} {tl ky : Nat} {σ : List Nat} {A : List Stq} (hS : RdS g h r tf tl ky σ A) (hl : σ.length ≤ 96) (hd : 1 ≤ d) : Ex g mX1_lastOpen d 0 ks 0 [some (.ref (g.1 + 40))] [] h (qi (fun h' x => h' = h ∧ x = nI (σ.headD 0))) := by
  obtain ⟨hT, h6, -, h3, ⟨fo, h43, hso⟩, h5⟩ := hS
  cases σ with
  | nil =>
    have h5 : r 5 = nI 0 := h5
    refine ex_aload_n (pc := 0) dX1_lastOpen_0 rfl ?_
    refine ex_get (pc := 1) dX1_lastOpen_1 fl_X1_28 hT.1 rfl ?_
    rw [h5]
    refine ex_iconst (pc := 4) (v := (nI 1)) dX1_lastOpen_4 (by decide) ?_
    refine ex_isub (pc := 5) dX1_lastOpen_5 ?_
    refine ex_bipush (pc := 6) (v := (nI 96)) dX1_lastOpen_6 (by decide) ?_
    refine cx_SN2i (pc := 8) dX1_lastOpen_8 lk_X1_89 rfl (Nat.le_of_ble_eq_true rfl) (Nat.le_of_ble_eq_true rfl) (by omega) (c_ib _ 96) (fun h_8 x_8 q_8 => ?_)
    obtain ⟨e_8, f_8⟩ := q_8
    rw [e_8, f_8]
    refine bx_if_eq_t (pc := 11) (tgt := 28) dX1_lastOpen_11 (by decide) (by decide) ?_
    refine ex_iconst (pc := 28) (v := 0) dX1_lastOpen_28 (by decide) ?_
    refine ex_ret dX1_lastOpen_29 rfl ?_
    exact qi_mk ⟨rfl, rfl⟩
  | cons c σ =>
    have h5 : r 5 = nI (σ.length + 1) := h5
    rw [List.length_cons] at hl
    refine ex_aload_n (pc := 0) dX1_lastOpen_0 rfl ?_
    refine ex_get (pc := 1) dX1_lastOpen_1 fl_X1_28 hT.1 rfl ?_
    rw [h5]
    refine ex_iconst (pc := 4) (v := (nI 1)) dX1_lastOpen_4 (by decide) ?_
    refine ex_isub (pc := 5) dX1_lastOpen_5 ?_
    rw [nI_sub (by omega), Nat.add_sub_cancel]
    refine ex_bipush (pc := 6) (v := (nI 96)) dX1_lastOpen_6 (by decide) ?_
    refine cx_SN2i (pc := 8) dX1_lastOpen_8 lk_X1_89 rfl (Nat.le_of_ble_eq_true rfl) (Nat.le_of_ble_eq_true rfl) (by omega) (c_ib _ 96) (fun h_8 x_8 q_8 => ?_)
    obtain ⟨e_8, f_8⟩ := q_8
    rw [e_8, f_8]
    refine bx_if_eq_f (pc := 11) (tgt := 28) dX1_lastOpen_11 (by decide) (by rw [bI_t (bw_t (by omega))]; decide) ?_
    refine ex_aload_n (pc := 14) dX1_lastOpen_14 rfl ?_
    refine ex_get (pc := 15) dX1_lastOpen_15 fl_X1_25 hT.1 rfl ?_
    refine ex_aload_n (pc := 18) dX1_lastOpen_18 rfl ?_
    refine ex_get (pc := 19) dX1_lastOpen_19 fl_X1_28 hT.1 rfl ?_
    rw [h5]
    refine ex_iconst (pc := 22) (v := (nI 1)) dX1_lastOpen_22 (by decide) ?_
    refine ex_isub (pc := 23) dX1_lastOpen_23 ?_
    rw [nI_sub (by omega), Nat.add_sub_cancel]
    refine ex_ildn (k := σ.length) (pc := 24) dX1_lastOpen_24 h43 rfl (by omega) (by decide) ?_
    refine ex_goto (pc := 25) (tgt := 29) dX1_lastOpen_25 (by decide) ?_
    refine ex_ret dX1_lastOpen_29 rfl ?_
    exact qi_mk ⟨rfl, hso.1⟩
set_option maxHeartbeats 4000000 in
set_option maxRecDepth 100000 in
theorem c_R_addOpen {g : Gl} {d ks : Nat} {h : AH} {r tf : Nat → Int32} {tl ky : Nat} {σ : List Nat} {A : List Stq} (hS : RdS g h r tf tl ky σ A) {c : Nat} (hc : c < 256) (hl : σ.length < 96) : Ex g mX1_addOpen d 0 ks 0 [some (.ref (g.1 + 40)), some (.int (nI c))] [] h (qv (fun h' => RdS g h' (upd r 5 (nI (σ.length + 1))) tf tl ky (c :: σ) A ∧ FrX rdW g h h')) := by
  obtain ⟨hT, h6, ⟨fs, h42, hsf⟩, h3, ⟨fo, h43, hso⟩, h5⟩ := hS
  refine ex_aload_n (pc := 0) dX1_addOpen_0 rfl ?_
  refine ex_get (pc := 1) dX1_addOpen_1 fl_X1_28 hT.1 rfl ?_
  refine ex_bipush (pc := 4) (v := (nI 96)) dX1_addOpen_4 (by decide) ?_
  refine bx_icmp_ge_f (pc := 6) (tgt := 29) dX1_addOpen_6 (by decide) (by rw [h5]; exact nI_ge (by omega) (by omega)) ?_
  refine ex_aload_n (pc := 9) dX1_addOpen_9 rfl ?_
  refine ex_get (pc := 10) dX1_addOpen_10 fl_X1_25 hT.1 rfl ?_
  refine ex_aload_n (pc := 13) dX1_addOpen_13 rfl ?_
  refine ex_get (pc := 14) dX1_addOpen_14 fl_X1_28 hT.1 rfl ?_
  rw [h5]
  refine ex_iload_n (pc := 17) dX1_addOpen_17 rfl ?_
  refine ex_istn (k := σ.length) (pc := 18) dX1_addOpen_18 h43 rfl (by omega) (by decide) ?_
  refine ex_aload_n (pc := 19) dX1_addOpen_19 rfl ?_
  refine ex_dup (pc := 20) dX1_addOpen_20 rfl ?_
  refine ex_get (pc := 21) dX1_addOpen_21 fl_X1_28 (gs_ne (by decide) hT.1) rfl ?_
  rw [h5]
  refine ex_iconst (pc := 24) (v := (nI 1)) dX1_addOpen_24 (by decide) ?_
  refine ex_iadd (pc := 25) dX1_addOpen_25 ?_
  rw [nI_add]
  refine ex_put (pc := 26) dX1_addOpen_26 fp_X1_28 (gs_ne (by decide) hT.1) (Nat.le_of_ble_eq_true rfl) rfl rfl ?_
  rw [rd_5]
  refine ex_vret dX1_addOpen_29 rfl ?_
  refine qv_mk ⟨⟨⟨gs_eq (gs_ne (by decide) hT.1), gs_ne (by decide) (gs_ne (by decide) hT.2.1), (upd_ne (by decide)).trans hT.2.2.1, hT.2.2.2⟩, (upd_ne (by decide)).trans h6, ⟨fs, gs_ne (by decide) (gs_ne (by decide) h42), hsf⟩, (upd_ne (by decide)).trans h3, ⟨_, gs_ne (by decide) (gs_eq h43), ⟨upd_eq, hc, hso.up (Nat.le_refl _)⟩⟩, upd_eq⟩, ((FrX.st (Or.inr (Or.inr rfl)) (nscr (by omega))).tr (FrX.st (Or.inl rfl) (nscr (by omega))))⟩
set_option maxHeartbeats 4000000 in
set_option maxRecDepth 100000 in
theorem c_R_addStep {g : Gl} {d ks : Nat} {h : AH} {r tf : Nat → Int32} {tl ky : Nat} {σ : List Nat} {A : List Stq} (hS : RdS g h r tf tl ky σ A) {x : Stq} {v : Int32} (hv : v = encQ ky x) (hl : A.length < 96) : Ex g mX1_addStep d 0 ks 0 [some (.ref (g.1 + 40)), some (.int v)] [] h (qv (fun h' => RdS g h' (upd r 3 (nI (A.length + 1))) tf tl ky σ (A ++ [x]) ∧ FrX rdW g h h')) := by
  obtain ⟨hT, h6, ⟨fs, h42, hsf⟩, h3, ⟨fo, h43, hso⟩, h5⟩ := hS
  subst hv
  refine ex_aload_n (pc := 0) dX1_addStep_0 rfl ?_
  refine ex_get (pc := 1) dX1_addStep_1 fl_X1_22 hT.1 rfl ?_
  refine ex_bipush (pc := 4) (v := (nI 96)) dX1_addStep_4 (by decide) ?_
  refine bx_icmp_ge_f (pc := 6) (tgt := 29) dX1_addStep_6 (by decide) (by rw [h3]; exact nI_ge (by omega) (by omega)) ?_
  refine ex_aload_n (pc := 9) dX1_addStep_9 rfl ?_
  refine ex_get (pc := 10) dX1_addStep_10 fl_X1_19 hT.1 rfl ?_
  refine ex_aload_n (pc := 13) dX1_addStep_13 rfl ?_
  refine ex_get (pc := 14) dX1_addStep_14 fl_X1_22 hT.1 rfl ?_
  rw [h3]
  refine ex_iload_n (pc := 17) dX1_addStep_17 rfl ?_
  refine ex_istn (k := A.length) (pc := 18) dX1_addStep_18 h42 rfl (by omega) (by decide) ?_
  refine ex_aload_n (pc := 19) dX1_addStep_19 rfl ?_
  refine ex_dup (pc := 20) dX1_addStep_20 rfl ?_
  refine ex_get (pc := 21) dX1_addStep_21 fl_X1_22 (gs_ne (by decide) hT.1) rfl ?_
  rw [h3]
  refine ex_iconst (pc := 24) (v := (nI 1)) dX1_addStep_24 (by decide) ?_
  refine ex_iadd (pc := 25) dX1_addStep_25 ?_
  rw [nI_add]
  refine ex_put (pc := 26) dX1_addStep_26 fp_X1_22 (gs_ne (by decide) hT.1) (Nat.le_of_ble_eq_true rfl) rfl rfl ?_
  rw [rd_3]
  refine ex_vret dX1_addStep_29 rfl ?_
  refine qv_mk ⟨⟨⟨gs_eq (gs_ne (by decide) hT.1), gs_ne (by decide) (gs_ne (by decide) hT.2.1), (upd_ne (by decide)).trans hT.2.2.1, hT.2.2.2⟩, (upd_ne (by decide)).trans h6, ⟨_, gs_ne (by decide) (gs_eq h42), hsf.up⟩, by rw [upd_eq]; simp, ⟨fo, gs_ne (by decide) (gs_ne (by decide) h43), hso⟩, (upd_ne (by decide)).trans h5⟩, ((FrX.st (Or.inr (Or.inl rfl)) (nscr (by omega))).tr (FrX.st (Or.inl rfl) (nscr (by omega))))⟩
theorem RdS.p {g : Gl} {h : AH} {r tf : Nat → Int32} {tl ky : Nat} {σ : List Nat} {A : List Stq} {c : Nat} (a : RdS g h r tf tl ky (c :: σ) A) : RdS g (h.set 40 (rdC g (upd r 5 (nI σ.length)))) (upd r 5 (nI σ.length)) tf tl ky σ A := by
  obtain ⟨hT, h6, ⟨fs, h42, hsf⟩, h3, ⟨fo, h43, hso⟩, h5⟩ := a
  exact ⟨hT.s (upd_ne (by decide)), (upd_ne (by decide)).trans h6, ⟨fs, gs_ne (by decide) h42, hsf⟩, (upd_ne (by decide)).trans h3, ⟨fo, gs_ne (by decide) h43, hso.2.2⟩, upd_eq⟩
theorem RdS.s {g : Gl} {h : AH} {r tf : Nat → Int32} {tl ky : Nat} {σ : List Nat} {A : List Stq} (a : RdS g h r tf tl ky σ A) {k : Nat} {v : Int32} (hk : ¬ k = 1 ∧ ¬ k = 3 ∧ ¬ k = 5 ∧ ¬ k = 6) : RdS g (h.set 40 (rdC g (upd r k v))) (upd r k v) tf tl ky σ A := by
  obtain ⟨hT, h6, ⟨fs, h42, hsf⟩, h3, ⟨fo, h43, hso⟩, h5⟩ := a
  exact ⟨hT.s (upd_ne (by omega)), (upd_ne (by omega)).trans h6, ⟨fs, gs_ne (by decide) h42, hsf⟩, (upd_ne (by omega)).trans h3, ⟨fo, gs_ne (by decide) h43, hso⟩, (upd_ne (by omega)).trans h5⟩
theorem RdS.hd {g : Gl} {h : AH} {r tf : Nat → Int32} {tl ky : Nat} {σ : List Nat} {A : List Stq} (a : RdS g h r tf tl ky σ A) : σ.headD 0 < 256 := by
  obtain ⟨-, -, -, -, ⟨fo, -, hso⟩, -⟩ := a
  cases σ with
  | nil => decide
  | cons c σ => exact hso.2.1
def rC (r r' : Nat → Int32) : Prop := ∀ k, ¬ k = 3 → ¬ k = 5 → r' k = r k
theorem rC.rf {r : Nat → Int32} : rC r r := fun _ _ _ => rfl
theorem rC.tr {r r' r'' : Nat → Int32} (a : rC r r') (b : rC r' r'') : rC r r'' := fun k h1 h2 => (b k h1 h2).trans (a k h1 h2)
theorem rC.u3 {r r' : Nat → Int32} (a : rC r r') {v : Int32} : rC r (upd r' 3 v) := fun k h1 h2 => (upd_ne h1).trans (a k h1 h2)
theorem rC.u5 {r r' : Nat → Int32} (a : rC r r') {v : Int32} : rC r (upd r' 5 v) := fun k h1 h2 => (upd_ne h2).trans (a k h1 h2)
def rE (r r' : Nat → Int32) : Prop := ∀ k, ¬ k = 3 → ¬ k = 5 → ¬ k = 9 → ¬ k = 10 → r' k = r k
set_option maxHeartbeats 4000000 in
set_option maxRecDepth 100000 in
theorem c_R_closeAbove {g : Gl} {d ks : Nat} {tf : Nat → Int32} {tl ky k : Nat} (hk : k ≤ 5) (hd : 2 ≤ d) : ∀ (σ : List Nat) (A : List Stq) (h : AH) (r : Nat → Int32), RdS g h r tf tl ky σ A → A.length + σ.length ≤ 96 → Ex g mX1_closeAbove d 0 ks 0 [some (.ref (g.1 + 40)), some (.int (nI k))] [] h (qv (fun h' => ∃ r', RdS g h' r' tf tl ky (clo k σ A).1 (clo k σ A).2 ∧ rC r r' ∧ FrX rdW g h h')) := by
  intro σ
  induction σ with
  | nil =>
    intro A h r hS hl
    refine ex_aload_n (pc := 0) dX1_closeAbove_0 rfl ?_
    refine ex_get (pc := 1) dX1_closeAbove_1 fl_X1_28 hS.1.1 rfl ?_
    refine bx_if_le_t (pc := 4) (tgt := 40) dX1_closeAbove_4 (by decide) (by rw [hS.2.2.2.2.2]; decide) ?_
    refine ex_vret dX1_closeAbove_40 rfl ?_
    exact qv_mk ⟨r, hS, rC.rf, FrX.rf⟩
  | cons c σ ih =>
    intro A h r hS hl
    rw [List.length_cons] at hl
    by_cases e : k < rkc c
    · skip
      refine ex_aload_n (pc := 0) dX1_closeAbove_0 rfl ?_
      refine ex_get (pc := 1) dX1_closeAbove_1 fl_X1_28 hS.1.1 rfl ?_
      refine bx_if_le_f (pc := 4) (tgt := 40) dX1_closeAbove_4 (by decide) (by rw [hS.2.2.2.2.2]; exact nI_nle (by rw [List.length_cons]; omega) (by rw [List.length_cons]; omega)) ?_
      refine ex_aload_n (pc := 7) dX1_closeAbove_7 rfl ?_
      refine cx_VL0i (pc := 8) dX1_closeAbove_8 lk_X1_146 hS.1.1 rfl (Nat.le_of_ble_eq_true rfl) (Nat.le_of_ble_eq_true rfl) (by omega) (c_R_lastOpen hS (by rw [List.length_cons]; omega) (by omega)) (fun h_8 x_8 q_8 => ?_)
      obtain ⟨e_8, f_8⟩ := q_8
      rw [e_8, f_8]
      show Ex _ _ _ _ _ _ _ (.int (nI c) :: _) _ _
      refine cx_SL1i (pc := 11) dX1_closeAbove_11 lk_X1_143 rfl (Nat.le_of_ble_eq_true rfl) (Nat.le_of_ble_eq_true rfl) (by omega) (c_R_rankOf hS.hd) (fun h_11 x_11 q_11 => ?_)
      obtain ⟨e_11, f_11⟩ := q_11
      rw [e_11, f_11]
      refine ex_iload_n (pc := 14) dX1_closeAbove_14 rfl ?_
      refine bx_icmp_le_f (pc := 15) (tgt := 40) dX1_closeAbove_15 (by decide) (fun q => absurd ((nI_leI (by have := rkc_le c; omega) (by omega)).mp q) (by omega)) ?_
      refine ex_aload_n (pc := 18) dX1_closeAbove_18 rfl ?_
      refine ex_aload_n (pc := 19) dX1_closeAbove_19 rfl ?_
      refine cx_VL0i (pc := 20) dX1_closeAbove_20 lk_X1_146 hS.1.1 rfl (Nat.le_of_ble_eq_true rfl) (Nat.le_of_ble_eq_true rfl) (by omega) (c_R_lastOpen hS (by rw [List.length_cons]; omega) (by omega)) (fun h_20 x_20 q_20 => ?_)
      obtain ⟨e_20, f_20⟩ := q_20
      rw [e_20, f_20]
      show Ex _ _ _ _ _ _ _ (.int (nI c) :: _) _ _
      refine ex_ineg (pc := 23) dX1_closeAbove_23 ?_
      refine cx_VL1v (pc := 24) dX1_closeAbove_24 lk_X1_128 hS.1.1 rfl (Nat.le_of_ble_eq_true rfl) (Nat.le_of_ble_eq_true rfl) (by omega) (c_R_addStep hS (x := (2, c)) enc_2.symm (by omega)) (fun h_24 q_24 => ?_)
      obtain ⟨hS2, f2⟩ := q_24
      refine ex_aload_n (pc := 27) dX1_closeAbove_27 rfl ?_
      refine ex_dup (pc := 28) dX1_closeAbove_28 rfl ?_
      refine ex_get (pc := 29) dX1_closeAbove_29 fl_X1_28 hS2.1.1 rfl ?_
      rw [hS2.2.2.2.2.2]
      refine ex_iconst (pc := 32) (v := (nI 1)) dX1_closeAbove_32 (by decide) ?_
      refine ex_isub (pc := 33) dX1_closeAbove_33 ?_
      rw [List.length_cons, nI_sub (by omega), Nat.add_sub_cancel]
      refine ex_put (pc := 34) dX1_closeAbove_34 fp_X1_28 hS2.1.1 (Nat.le_of_ble_eq_true rfl) rfl rfl ?_
      rw [rd_5]
      refine ex_goto (pc := 37) (tgt := 0) dX1_closeAbove_37 (by decide) ?_
      rw [clo, if_pos e]
      refine (ih (A ++ [(2, c)]) _ _ hS2.p (by rw [List.length_append, List.length_singleton]; omega)).mono (fun h' x q => ?_)
      obtain ⟨ex, r', b1, b2, b3⟩ := q
      exact ⟨ex, r', b1, rC.tr (rC.rf.u3.u5) b2, (f2.tr (FrX.st (Or.inl rfl) (nscr (by omega)))).tr b3⟩
    · skip
      refine ex_aload_n (pc := 0) dX1_closeAbove_0 rfl ?_
      refine ex_get (pc := 1) dX1_closeAbove_1 fl_X1_28 hS.1.1 rfl ?_
      refine bx_if_le_f (pc := 4) (tgt := 40) dX1_closeAbove_4 (by decide) (by rw [hS.2.2.2.2.2]; exact nI_nle (by rw [List.length_cons]; omega) (by rw [List.length_cons]; omega)) ?_
      refine ex_aload_n (pc := 7) dX1_closeAbove_7 rfl ?_
      refine cx_VL0i (pc := 8) dX1_closeAbove_8 lk_X1_146 hS.1.1 rfl (Nat.le_of_ble_eq_true rfl) (Nat.le_of_ble_eq_true rfl) (by omega) (c_R_lastOpen hS (by rw [List.length_cons]; omega) (by omega)) (fun h_8 x_8 q_8 => ?_)
      obtain ⟨e_8, f_8⟩ := q_8
      rw [e_8, f_8]
      show Ex _ _ _ _ _ _ _ (.int (nI c) :: _) _ _
      refine cx_SL1i (pc := 11) dX1_closeAbove_11 lk_X1_143 rfl (Nat.le_of_ble_eq_true rfl) (Nat.le_of_ble_eq_true rfl) (by omega) (c_R_rankOf hS.hd) (fun h_11 x_11 q_11 => ?_)
      obtain ⟨e_11, f_11⟩ := q_11
      rw [e_11, f_11]
      refine ex_iload_n (pc := 14) dX1_closeAbove_14 rfl ?_
      refine bx_icmp_le_t (pc := 15) (tgt := 40) dX1_closeAbove_15 (by decide) (nI_le (by omega) (by omega)) ?_
      refine ex_vret dX1_closeAbove_40 rfl ?_
      rw [clo, if_neg e]
      exact qv_mk ⟨r, hS, rC.rf, FrX.rf⟩
set_option maxHeartbeats 4000000 in
set_option maxRecDepth 100000 in
theorem c_R_end_a {g : Gl} {d ks : Nat} {tf : Nat → Int32} {tl ky : Nat} (hd : 2 ≤ d) : ∀ (σ : List Nat) (A : List Stq) (k : Nat) (h : AH) (r : Nat → Int32), RdS g h r tf tl ky σ A → A.length + σ.length ≤ 96 → r 9 = nI k → cn 33 σ ≤ k → Ex g mX1_endPiece d 0 ks 5 [some (.ref (g.1 + 40))] [] h (qv (fun h' => ∃ r', RdS g h' r' tf tl ky (bng σ A k).1 (bng σ A k).2.1 ∧ r' 9 = nI (bng σ A k).2.2 ∧ r' 10 = r 10 ∧ rE r r' ∧ FrX rdW g h h')) := by
  intro σ
  induction σ with
  | nil =>
    intro A k h r hS hl h9 hk
    refine ex_aload_n (pc := 5) dX1_endPiece_5 rfl ?_
    refine ex_get (pc := 6) dX1_endPiece_6 fl_X1_28 hS.1.1 rfl ?_
    refine bx_if_le_t (pc := 9) (tgt := 50) dX1_endPiece_9 (by decide) (by rw [hS.2.2.2.2.2]; decide) ?_
    refine ex_vret dX1_endPiece_50 rfl ?_
    exact qv_mk ⟨r, hS, h9, rfl, fun _ _ _ _ _ => rfl, FrX.rf⟩
  | cons c σ ih =>
    intro A k h r hS hl h9 hk
    rw [List.length_cons] at hl
    rw [cn] at hk
    by_cases e : c = 33
    · rw [if_pos e] at hk
      refine ex_aload_n (pc := 5) dX1_endPiece_5 rfl ?_
      refine ex_get (pc := 6) dX1_endPiece_6 fl_X1_28 hS.1.1 rfl ?_
      refine bx_if_le_f (pc := 9) (tgt := 50) dX1_endPiece_9 (by decide) (by rw [hS.2.2.2.2.2]; exact nI_nle (by rw [List.length_cons]; omega) (by rw [List.length_cons]; omega)) ?_
      refine ex_aload_n (pc := 12) dX1_endPiece_12 rfl ?_
      refine cx_VL0i (pc := 13) dX1_endPiece_13 lk_X1_146 hS.1.1 rfl (Nat.le_of_ble_eq_true rfl) (Nat.le_of_ble_eq_true rfl) (by omega) (c_R_lastOpen hS (by rw [List.length_cons]; omega) (by omega)) (fun h_13 x_13 q_13 => ?_)
      obtain ⟨e_13, f_13⟩ := q_13
      rw [e_13, f_13]
      show Ex _ _ _ _ _ _ _ (.int (nI c) :: _) _ _
      refine ex_bipush (pc := 16) (v := (nI 33)) dX1_endPiece_16 (by decide) ?_
      refine bx_icmp_ne_f (pc := 18) (tgt := 50) dX1_endPiece_18 (by decide) (by rw [e]) ?_
      refine ex_aload_n (pc := 21) dX1_endPiece_21 rfl ?_
      refine ex_bipush (pc := 22) (v := (-33)) dX1_endPiece_22 (by decide) ?_
      refine cx_VL1v (pc := 24) dX1_endPiece_24 lk_X1_128 hS.1.1 rfl (Nat.le_of_ble_eq_true rfl) (Nat.le_of_ble_eq_true rfl) (by omega) (c_R_addStep hS (x := (2, 33)) (by rw [enc_2]; rfl) (by omega)) (fun h_24 q_24 => ?_)
      obtain ⟨hS2, f2⟩ := q_24
      refine ex_aload_n (pc := 27) dX1_endPiece_27 rfl ?_
      refine ex_dup (pc := 28) dX1_endPiece_28 rfl ?_
      refine ex_get (pc := 29) dX1_endPiece_29 fl_X1_28 hS2.1.1 rfl ?_
      rw [hS2.2.2.2.2.2]
      refine ex_iconst (pc := 32) (v := (nI 1)) dX1_endPiece_32 (by decide) ?_
      refine ex_isub (pc := 33) dX1_endPiece_33 ?_
      rw [List.length_cons, nI_sub (by omega), Nat.add_sub_cancel]
      refine ex_put (pc := 34) dX1_endPiece_34 fp_X1_28 hS2.1.1 (Nat.le_of_ble_eq_true rfl) rfl rfl ?_
      rw [rd_5]
      have hS3 := hS2.p
      refine ex_aload_n (pc := 37) dX1_endPiece_37 rfl ?_
      refine ex_dup (pc := 38) dX1_endPiece_38 rfl ?_
      refine ex_get (pc := 39) dX1_endPiece_39 fl_X1_40 hS3.1.1 rfl ?_
      rw [upd_ne (by decide), upd_ne (by decide), h9]
      refine ex_iconst (pc := 42) (v := (nI 1)) dX1_endPiece_42 (by decide) ?_
      refine ex_isub (pc := 43) dX1_endPiece_43 ?_
      rw [nI_sub (by omega)]
      refine ex_put (pc := 44) dX1_endPiece_44 fp_X1_40 hS3.1.1 (Nat.le_of_ble_eq_true rfl) rfl rfl ?_
      rw [rd_9]
      refine ex_goto (pc := 47) (tgt := 5) dX1_endPiece_47 (by decide) ?_
      rw [bng, if_pos e]
      refine (ih (A ++ [(2, 33)]) (k - 1) _ _ (hS3.s (k := 9) (by omega)) (by rw [List.length_append, List.length_singleton]; omega) upd_eq (by omega)).mono (fun h' x q => ?_)
      obtain ⟨ex, r', b1, b2, b3, b4, b5⟩ := q
      refine ⟨ex, r', b1, b2, ?_, ?_, ((f2.tr (FrX.st (Or.inl rfl) (nscr (by omega)))).tr (FrX.st (Or.inl rfl) (nscr (by omega)))).tr b5⟩
      · rw [b3, upd_ne (by decide), upd_ne (by decide), upd_ne (by decide)]
      · intro j j1 j2 j3 j4
        rw [b4 j j1 j2 j3 j4, upd_ne j3, upd_ne j2, upd_ne j1]
    · rw [if_neg e] at hk
      refine ex_aload_n (pc := 5) dX1_endPiece_5 rfl ?_
      refine ex_get (pc := 6) dX1_endPiece_6 fl_X1_28 hS.1.1 rfl ?_
      refine bx_if_le_f (pc := 9) (tgt := 50) dX1_endPiece_9 (by decide) (by rw [hS.2.2.2.2.2]; exact nI_nle (by rw [List.length_cons]; omega) (by rw [List.length_cons]; omega)) ?_
      refine ex_aload_n (pc := 12) dX1_endPiece_12 rfl ?_
      refine cx_VL0i (pc := 13) dX1_endPiece_13 lk_X1_146 hS.1.1 rfl (Nat.le_of_ble_eq_true rfl) (Nat.le_of_ble_eq_true rfl) (by omega) (c_R_lastOpen hS (by rw [List.length_cons]; omega) (by omega)) (fun h_13 x_13 q_13 => ?_)
      obtain ⟨e_13, f_13⟩ := q_13
      rw [e_13, f_13]
      show Ex _ _ _ _ _ _ _ (.int (nI c) :: _) _ _
      refine ex_bipush (pc := 16) (v := (nI 33)) dX1_endPiece_16 (by decide) ?_
      refine bx_icmp_ne_t (pc := 18) (tgt := 50) dX1_endPiece_18 (by decide) (fun q => e ((nI_eq (by have := hS.hd; exact Nat.lt_trans this (by decide)) (by omega)).mp q)) ?_
      refine ex_vret dX1_endPiece_50 rfl ?_
      rw [bng, if_neg e]
      exact qv_mk ⟨r, hS, h9, rfl, fun _ _ _ _ _ => rfl, FrX.rf⟩
set_option maxHeartbeats 4000000 in
set_option maxRecDepth 100000 in
theorem c_R_endPiece {g : Gl} {d ks : Nat} {h : AH} {r tf : Nat → Int32} {tl ky : Nat} {σ : List Nat} {A : List Stq} (hS : RdS g h r tf tl ky σ A) {k : Nat} (hl : A.length + σ.length ≤ 96) (h9 : r 9 = nI k) (hk : cn 33 σ ≤ k) (hd : 2 ≤ d) : Ex g mX1_endPiece d 0 ks 0 [some (.ref (g.1 + 40))] [] h (qv (fun h' => ∃ r', RdS g h' r' tf tl ky (bng σ A k).1 (bng σ A k).2.1 ∧ r' 9 = nI (bng σ A k).2.2 ∧ r' 10 = nI 0 ∧ rE r r' ∧ FrX rdW g h h')) := by
  refine ex_aload_n (pc := 0) dX1_endPiece_0 rfl ?_
  refine ex_iconst (pc := 1) (v := (nI 0)) dX1_endPiece_1 (by decide) ?_
  refine ex_put (pc := 2) dX1_endPiece_2 fp_X1_43 hS.1.1 (Nat.le_of_ble_eq_true rfl) rfl rfl ?_
  rw [rd_10]
  refine (c_R_end_a hd σ A k _ _ (hS.s (k := 10) (by omega)) hl ((upd_ne (by decide)).trans h9) hk).mono (fun h' x q => ?_)
  obtain ⟨ex, r', b1, b2, b3, b4, b5⟩ := q
  refine ⟨ex, r', b1, b2, b3.trans upd_eq, ?_, (FrX.st (Or.inl rfl) (nscr (by omega))).tr b5⟩
  intro j j1 j2 j3 j4
  rw [b4 j j1 j2 j3 j4, upd_ne j4]

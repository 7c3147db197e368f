/-! the reference's way through a text, call by call -/
def zP (z z' : Nat → Int32) : Prop := ∀ k, (k < 16 ∨ 25 < k) → z' k = z k
theorem zP.rf {z : Nat → Int32} : zP z z := fun _ _ => rfl
theorem zP.tr {z z' z'' : Nat → Int32} (a : zP z z') (b : zP z' z'') : zP z z'' := fun k hk => (b k hk).trans (a k hk)
theorem zK.p {z z' : Nat → Int32} (a : zK z z') : zP z z' := fun k hk => a k (by omega)
theorem zP.up {z : Nat → Int32} {k : Nat} {v : Int32} (h1 : 16 ≤ k) (h2 : k ≤ 25) : zP z (upd z k v) := fun j hj => upd_ne (by omega)
theorem prLen : ∀ (f m : Nat) (ts : List Tkn) (d u : Nat), (pr f m ts d u).2.2.length + (pr f m ts d u).2.1.length ≤ ts.length := by
  intro f
  induction f with
  | zero => intro m ts d u; rw [pr]; simp
  | succ f ih =>
    intro m ts d u
    rw [pr]
    by_cases h6 : m = 6
    · rw [if_pos h6]
      unfold prP
      cases ts with
      | nil => simp
      | cons t r =>
        dsimp only
        split
        · simp only [List.length_cons, List.length_nil]; omega
        · split
          · have := ih 6 r d (u + 1)
            unfold prB
            split <;> simp only [List.length_append, List.length_cons, List.length_nil] <;> omega
          · split
            · have := ih 1 r (d + 1) u
              unfold prR
              split
              · cases hr : (pr f 1 r (d + 1) u).2.1 with
                | nil => simp
                | cons t' r' =>
                  rw [hr, List.length_cons] at this
                  dsimp only
                  split <;> simp only [List.length_cons, List.length_nil] <;> omega
              · simp only [List.length_cons, List.length_nil]; omega
            · simp
    · rw [if_neg h6]
      by_cases h7 : m < 6
      · rw [if_pos h7]
        unfold prE
        have a := ih (m + 1) ts d u
        have b := ih (10 + m) (pr f (m + 1) ts d u).2.1 d u
        split
        · simp only [List.length_append]; omega
        · simp only [List.length_nil]; omega
      · rw [if_neg h7]
        unfold prL
        cases ts with
        | nil => simp
        | cons t r =>
          dsimp only
          have a := ih (m - 10 + 1) r d u
          have b := ih (10 + (m - 10)) (pr f (m - 10 + 1) r d u).2.1 d u
          split
          · split
            · split
              · simp only [List.length_append, List.length_cons, List.length_nil]; omega
              · simp only [List.length_append, List.length_cons, List.length_nil]; omega
            · simp only [List.length_cons, List.length_nil]; omega
          · simp
def frm (m d u : Nat) : Nat := (6 - m) + 3 + 6 * (8 - d) + (8 - u)
/-- what a call of the way gives -/
def PQ (g : Gl) (s tf : Nat → Int32) (tb : Nat → Nat) (tl la ky : Nat) (x : Rsl) (D u : Nat) (A : List Stq) (h : AH) (z : Nat → Int32) (h' : AH) (r : Int32) : Prop := ∃ z', zP z z' ∧ TkM tb tl ky z' x.2.1 ∧ FrX c7576 g h h' ∧ (x.1 = true → r = 1 ∧ PS g h' z' s tf tl la (A ++ x.2.2) ∧ z' 21 = nI D ∧ z' 22 = nI u) ∧ (x.1 = false → r = 0 ∧ ∃ A' : List Stq, A'.length ≤ 96 ∧ TpM g h' z' (wrA s la A') tf tl)
def CT (g : Gl) (s tf : Nat → Int32) (tb : Nat → Nat) (tl la ky : Nat) (M : Mt) (nn : List (Option Value)) (f m : Nat) : Prop := ∀ (d ks : Nat) (ts : List Tkn) (D u : Nat) (A : List Stq) (h : AH) (z : Nat → Int32), PS g h z s tf tl la A → TkM tb tl ky z ts → z 21 = nI D → z 22 = nI u → D ≤ 8 → u ≤ 8 → A.length + ts.length ≤ 96 → nee m ts.length ≤ f → frm m D u ≤ d → Ex g M d 0 ks 0 (some (.ref (g.1 + 75)) :: some (.int (nI ky)) :: nn) [] h (qi (PQ g s tf tb tl la ky (pr f m ts D u) D u A h z))
theorem PS.k {g : Gl} {h h' : AH} {z z' s tf : Nat → Int32} {tl la : Nat} {A : List Stq} (a : PS g h z s tf tl la A) (k : zK z z') (hT : TpM g h' z' (wrA s la A) tf tl) : PS g h' z' s tf tl la A := ⟨hT, (k 23 (by omega)).trans a.2.1, (k 24 (by omega)).trans a.2.2.1, (k 25 (by omega)).trans a.2.2.2⟩
theorem TkM.c {tb : Nat → Nat} {tl ky : Nat} {z z' : Nat → Int32} {ts : List Tkn} (h : TkM tb tl ky z ts) (e : ∀ k, 16 ≤ k → k ≤ 20 → z' k = z k) : TkM tb tl ky z' ts := by
  obtain ⟨b, ⟨a1, a2, a3⟩, h2, h3⟩ := h
  refine ⟨b, ⟨(e 16 (by omega) (by omega)).trans a1, fun q => (e 18 (by omega) (by omega)).trans (a2 q), fun q => ?_⟩, h2, h3⟩
  rw [e 17 (by omega) (by omega), e 18 (by omega) (by omega), e 19 (by omega) (by omega), e 20 (by omega) (by omega)]
  exact a3 q
theorem c75_76 {g : Gl} {h h' : AH} (f : FrX c75 g h h') : FrX c7576 g h h' := f.mono (fun k hk => Or.inl hk)
/-- a sign is laid down: what stands then -/
theorem PS.sg {g : Gl} {h h' : AH} {z s tf : Nat → Int32} {tl la : Nat} {A : List Stq} {v : Nat} (a : PS g h z s tf tl la A) (hT : TpM g h' (upd z 23 (nI (A.length + 1))) (wrA s la (A ++ [(2, v)])) tf tl) : PS g h' (upd z 23 (nI (A.length + 1))) s tf tl la (A ++ [(2, v)]) := by
  refine ⟨hT, ?_, (upd_ne (by decide)).trans a.2.2.1, ?_⟩
  · rw [upd_eq]; simp
  · rw [upd_ne (by decide), a.2.2.2, lvs_app]; rfl
theorem sg_no {ts : List Tkn} {l c : Nat} (h : ∀ t r, ts = t :: r → ¬ rk t = l) (hc : rkc c = l) : sgB ts c = false := by
  cases ts with
  | nil => rfl
  | cons t r =>
    refine decide_eq_false (fun z => h t r rfl ?_)
    unfold rk
    rw [if_pos z.1, z.2, hc]
theorem sg_ne {t : Tkn} {r : List Tkn} {c : Nat} (h : ¬ t.2.2.2 = c) : sgB (t :: r) c = false := decide_eq_false (fun z => h z.2)
theorem prL_no {q : Nat → List Tkn → Nat → Nat → Rsl} {l : Nat} {ts : List Tkn} {d u : Nat} (h : ∀ t r, ts = t :: r → ¬ rk t = l) : prL q l ts d u = (true, ts, []) := by
  unfold prL
  cases ts with
  | nil => rfl
  | cons t r => dsimp only; rw [if_neg (h t r rfl)]
theorem prL_f {q : Nat → List Tkn → Nat → Nat → Rsl} {l : Nat} {t : Tkn} {r : List Tkn} {d u : Nat} (h : rk t = l) (hx : (q (l + 1) r d u).1 = false) : prL q l (t :: r) d u = (false, (q (l + 1) r d u).2.1, []) := by
  unfold prL
  dsimp only
  rw [if_pos h, if_neg (by rw [hx]; decide)]
theorem prL_t {q : Nat → List Tkn → Nat → Nat → Rsl} {l : Nat} {t : Tkn} {r : List Tkn} {d u : Nat} (h : rk t = l) (hl : ¬ l = 3) (hx : (q (l + 1) r d u).1 = true) : prL q l (t :: r) d u = ((q (10 + l) (q (l + 1) r d u).2.1 d u).1, (q (10 + l) (q (l + 1) r d u).2.1 d u).2.1, (q (l + 1) r d u).2.2 ++ (2, t.2.2.2) :: (q (10 + l) (q (l + 1) r d u).2.1 d u).2.2) := by
  unfold prL
  dsimp only
  rw [if_pos h, if_pos hx, if_neg hl]
theorem prL_3 {q : Nat → List Tkn → Nat → Nat → Rsl} {t : Tkn} {r : List Tkn} {d u : Nat} (h : rk t = 3) (hx : (q 4 r d u).1 = true) : prL q 3 (t :: r) d u = (true, (q 4 r d u).2.1, (q 4 r d u).2.2 ++ [(2, t.2.2.2)]) := by
  unfold prL
  dsimp only
  rw [if_pos h, if_pos hx, if_pos rfl]
theorem prLoop {f l : Nat} {ts : List Tkn} {d u : Nat} (h : 1 ≤ l) : pr (f + 1) (10 + l) ts d u = prL (pr f) l ts d u := by rw [pr, if_neg (by omega), if_neg (by omega), Nat.add_sub_cancel_left]
set_option maxHeartbeats 4000000 in
set_option maxRecDepth 100000 in
theorem c_M_either_l {g : Gl} {s tf : Nat → Int32} {tb : Nat → Nat} {tl la ky : Nat} (hB : TpOk tf tb) (hla : la + 194 ≤ 3090) (hky : ky < 3) {h : AH} {z : Nat → Int32} {d ks D u F : Nat} (hD : D ≤ 8) (hu : u ≤ 8) (hd : frm 1 D u ≤ d) (Hc : ∀ f, f ≤ F → CT g s tf tb tl la ky mX7_both [] f 2) : ∀ (f : Nat), f ≤ F + 1 → ∀ (ts : List Tkn) (A : List Stq) (h1 : AH) (z1 : Nat → Int32), PS g h1 z1 s tf tl la A → TkM tb tl ky z1 ts → zP z z1 → FrX c7576 g h h1 → z1 21 = nI D → z1 22 = nI u → A.length + ts.length ≤ 96 → nee (10 + 1) ts.length ≤ f → Ex g mX7_either d 0 ks 10 [some (.ref (g.1 + 75)), some (.int (nI ky))] [] h1 (qi (PQ g s tf tb tl la ky (pr f (10 + 1) ts D u) D u A h z)) := by
  have hd1 : 4 ≤ d := by unfold frm at hd; omega
  intro f
  induction f with
  | zero =>
    intro hF0 ts A h1 z1 hP hk zp hF h21 h22 hlen hf
    unfold nee at hf
    rw [if_neg (by omega)] at hf
    omega
  | succ f ih =>
    intro hF0 ts A h1 z1 hP hk zp hF h21 h22 hlen hf
    by_cases hyes : ∃ t r, ts = t :: r ∧ rk t = 1
    · obtain ⟨t, r, rfl, hrk⟩ := hyes
      obtain ⟨hk2, hrc, -, -⟩ := rk_k (t := t) (by omega)
      have hvs : t.2.2.2 = 124 := by
        rw [hrc] at hrk
        unfold rkc at hrk
        (repeat' split at hrk) <;> omega
      have hs20 : z1 20 = nI t.2.2.2 := by
        rcases (TkM_s hB hk).1 with ⟨k, -⟩ | ⟨k, -⟩ | ⟨k, -, q, -⟩ | ⟨k, -⟩
        · omega
        · omega
        · exact q
        · omega
      have hv : t.2.2.2 = 124 := hvs
      refine ex_aload_n (pc := 10) dX7_either_10 rfl ?_
      refine ex_bipush (pc := 11) (v := (nI 124)) dX7_either_11 (by decide) ?_
      refine cx_VL1i (pc := 13) dX7_either_13 lk_X7_317 hP.1.1.1 rfl (Nat.le_of_ble_eq_true rfl) (Nat.le_of_ble_eq_true rfl) (by omega) (c_M_isSign hP.1 hB hk (c := 124) (by decide)) (fun h_13 x_13 q_13 => ?_)
      obtain ⟨e_13, f_13⟩ := q_13
      rw [e_13, f_13]
      refine bx_if_eq_f (pc := 16) (tgt := 43) dX7_either_16 (by decide) (by rw [bI_t (by unfold sgB; exact decide_eq_true ⟨hk2, hv⟩)]; decide) ?_
      refine ex_aload_n (pc := 19) dX7_either_19 rfl ?_
      refine cx_VL0v (pc := 20) dX7_either_20 lk_X7_320 hP.1.1.1 rfl (Nat.le_of_ble_eq_true rfl) (Nat.le_of_ble_eq_true rfl) (by omega) (c_M_nx hP.1 hB hk (by omega) (by unfold frm at hd; omega)) (fun h_20 q_20 => ?_)
      obtain ⟨z2, t2, k2, tk2, f2⟩ := q_20
      have hP2 := hP.k k2 t2
      refine ex_aload_n (pc := 23) dX7_either_23 rfl ?_
      refine ex_iload_n (pc := 24) dX7_either_24 rfl ?_
      refine cx_VL1i (pc := 25) dX7_either_25 lk_X7_314 t2.1.1 rfl (Nat.le_of_ble_eq_true rfl) (Nat.le_of_ble_eq_true rfl) (by omega) (Hc f (by omega) (d - 1) 0 r D u A h_20 z2 hP2 tk2 ((k2 21 (by omega)).trans h21) ((k2 22 (by omega)).trans h22) hD hu (by rw [List.length_cons] at hlen; omega) (by rw [List.length_cons] at hf; unfold nee at hf ⊢; rw [if_neg (by omega)] at hf; rw [if_pos (by omega)]; omega) (by unfold frm at hd ⊢; omega)) (fun h_25 x_25 q_25 => ?_)
      obtain ⟨z3, zp3, tk3, f3, ok3, no3⟩ := q_25
      refine ex_if_ne (pc := 28) (tgt := 33) dX7_either_28 (by decide) (fun c_28 => ?_) (fun c_28 => ?_)
      · skip
        have hx : (pr f 2 r D u).1 = true := by
          cases e : (pr f 2 r D u).1 with
          | true => rfl
          | false => exact absurd (no3 e).1 c_28
        obtain ⟨-, hP3, h21c, h22c⟩ := ok3 hx
        have hlen3 := prLen f 2 r D u
        refine ex_aload_n (pc := 33) dX7_either_33 rfl ?_
        refine ex_iconst (pc := 34) (v := (nI 2)) dX7_either_34 (by decide) ?_
        refine ex_bipush (pc := 35) (v := (nI 124)) dX7_either_35 (by decide) ?_
        refine cx_VL2v (pc := 37) dX7_either_37 lk_X7_323 hP3.1.1.1 rfl (Nat.le_of_ble_eq_true rfl) (Nat.le_of_ble_eq_true rfl) (by omega) (c_M_step hP3 (by rw [List.length_append]; rw [List.length_cons] at hlen; omega) 2 124) (fun h_37 q_37 => ?_)
        obtain ⟨t4, f4⟩ := q_37
        have hP4 := hP3.sg t4
        refine ex_goto (pc := 40) (tgt := 10) dX7_either_40 (by decide) ?_
        have e1 : pr (f + 1) (10 + 1) (t :: r) D u = ((pr f (10 + 1) (pr f 2 r D u).2.1 D u).1, (pr f (10 + 1) (pr f 2 r D u).2.1 D u).2.1, (pr f 2 r D u).2.2 ++ (2, 124) :: (pr f (10 + 1) (pr f 2 r D u).2.1 D u).2.2) := by
          rw [prLoop (by omega)]
          have qq := prL_t (q := pr f) hrk (by decide) hx
          rw [hv] at qq
          exact qq
        rw [e1]
        refine (ih (by omega) _ (A ++ (pr f 2 r D u).2.2 ++ [(2, 124)]) _ _ hP4 (tk3.c (fun k h1 h2 => upd_ne (by omega))) (((zp.tr k2.p).tr zp3).tr (zP.up (by omega) (by omega))) (((hF.tr (c75_76 f2)).tr f3).tr f4) ((upd_ne (by decide)).trans h21c) ((upd_ne (by decide)).trans h22c) (by rw [List.length_append, List.length_append]; rw [List.length_cons] at hlen; simp only [List.length_cons, List.length_nil]; omega) (by rw [List.length_cons] at hf; unfold nee at hf ⊢; rw [if_neg (by omega)] at hf; rw [if_neg (by omega)]; omega)).mono (fun h' r' q => ?_)
        obtain ⟨x, e, zz, b1, b2, b3, b4, b5⟩ := q
        refine ⟨x, e, zz, b1, b2, b3, fun hh => ?_, b5⟩
        obtain ⟨c1, c2, c3⟩ := b4 hh
        exact ⟨c1, by rw [List.append_assoc, List.append_assoc, List.singleton_append] at c2; exact c2, c3⟩
      · skip
        refine ex_iconst (pc := 31) (v := 0) dX7_either_31 (by decide) ?_
        refine ex_zret dX7_either_32 rfl (by first | exact Or.inl rfl | exact Or.inr rfl | exact bI_01 _) ?_
        have hx : (pr f 2 r D u).1 = false := by
          cases e : (pr f 2 r D u).1 with
          | false => rfl
          | true => exact absurd (ok3 e).1 (by rw [c_28]; decide)
        have e1 : pr (f + 1) (10 + 1) (t :: r) D u = (false, (pr f 2 r D u).2.1, []) := by rw [prLoop (by omega)]; exact prL_f hrk hx
        obtain ⟨-, A', hA', hT'⟩ := no3 hx
        rw [e1]
        exact qi_mk ⟨z3, (zp.tr k2.p).tr zp3, tk3, (hF.tr (c75_76 f2)).tr f3, fun z => (by cases z), fun _ => ⟨rfl, A', hA', hT'⟩⟩
    · have hno : ∀ t r, ts = t :: r → ¬ rk t = 1 := fun t r e q => hyes ⟨t, r, e, q⟩
      refine ex_aload_n (pc := 10) dX7_either_10 rfl ?_
      refine ex_bipush (pc := 11) (v := (nI 124)) dX7_either_11 (by decide) ?_
      refine cx_VL1i (pc := 13) dX7_either_13 lk_X7_317 hP.1.1.1 rfl (Nat.le_of_ble_eq_true rfl) (Nat.le_of_ble_eq_true rfl) (by omega) (c_M_isSign hP.1 hB hk (c := 124) (by decide)) (fun h_13 x_13 q_13 => ?_)
      obtain ⟨e_13, f_13⟩ := q_13
      rw [e_13, f_13]
      refine bx_if_eq_t (pc := 16) (tgt := 43) dX7_either_16 (by decide) (bI_f (by rw [sg_no hno (show rkc 124 = 1 by decide)]; decide)) ?_
      refine ex_iconst (pc := 43) (v := 1) dX7_either_43 (by decide) ?_
      refine ex_zret dX7_either_44 rfl (by first | exact Or.inl rfl | exact Or.inr rfl | exact bI_01 _) ?_
      have e1 : pr (f + 1) (10 + 1) ts D u = (true, ts, []) := by rw [prLoop (by omega)]; exact prL_no hno
      rw [e1]
      exact qi_mk ⟨z1, zp, hk, hF, fun _ => ⟨rfl, by rw [List.append_nil]; exact hP, h21, h22⟩, fun z => by cases z⟩
set_option maxHeartbeats 4000000 in
set_option maxRecDepth 100000 in
theorem c_M_either {g : Gl} {s tf : Nat → Int32} {tb : Nat → Nat} {tl la ky : Nat} (hB : TpOk tf tb) (hla : la + 194 ≤ 3090) (hky : ky < 3) {f : Nat} (Hc : ∀ f', f' ≤ f → CT g s tf tb tl la ky mX7_both [] f' 2) : CT g s tf tb tl la ky mX7_either [] (f + 1) 1 := by
  intro d ks ts D u A h z hP hk h21 h22 hD hu hlen hf hd
  have hd1 : 4 ≤ d := by unfold frm at hd; omega
  refine ex_aload_n (pc := 0) dX7_either_0 rfl ?_
  refine ex_iload_n (pc := 1) dX7_either_1 rfl ?_
  refine cx_VL1i (pc := 2) dX7_either_2 lk_X7_314 hP.1.1.1 rfl (Nat.le_of_ble_eq_true rfl) (Nat.le_of_ble_eq_true rfl) (by omega) (Hc f (Nat.le_refl _) (d - 1) 0 ts D u A h z hP hk h21 h22 hD hu hlen (by unfold nee at hf ⊢; rw [if_pos (by omega)] at hf; rw [if_pos (by omega)]; omega) (by unfold frm at hd ⊢; omega)) (fun h_2 x_2 q_2 => ?_)
  obtain ⟨z3, zp3, tk3, f3, ok3, no3⟩ := q_2
  refine ex_if_ne (pc := 5) (tgt := 10) dX7_either_5 (by decide) (fun c_5 => ?_) (fun c_5 => ?_)
  · skip
    have hx : (pr f 2 ts D u).1 = true := by
      cases e : (pr f 2 ts D u).1 with
      | true => rfl
      | false => exact absurd (no3 e).1 c_5
    obtain ⟨-, hP3, h21c, h22c⟩ := ok3 hx
    have hlen3 := prLen f 2 ts D u
    have hcl : (pr f 2 ts D u).2.1.length < ts.length := (((prOk f 2 ts D u (by unfold nee at hf ⊢; rw [if_pos (by omega)] at hf; rw [if_pos (by omega)]; omega)).2.1 (by omega) (by omega) [] [] (fun c τ e => by cases e)).1 hx).elim (fun τ q => q.elim (fun B q => q.2.2.2))
    have e1 : pr (f + 1) 1 ts D u = ((pr f (10 + 1) (pr f 2 ts D u).2.1 D u).1, (pr f (10 + 1) (pr f 2 ts D u).2.1 D u).2.1, (pr f 2 ts D u).2.2 ++ (pr f (10 + 1) (pr f 2 ts D u).2.1 D u).2.2) := by rw [pr, if_neg (by decide), if_pos (by decide)]; unfold prE; rw [if_pos hx]
    rw [e1]
    refine (c_M_either_l hB hla hky (h := h) (z := z) hD hu hd Hc f (by omega) _ _ h_2 z3 hP3 tk3 zp3 f3 h21c h22c (by rw [List.length_append]; omega) (by unfold nee at hf ⊢; rw [if_pos (by omega)] at hf; rw [if_neg (by omega)]; omega)).mono (fun h' r' q => ?_)
    obtain ⟨x, e, zz, b1, b2, b3, b4, b5⟩ := q
    refine ⟨x, e, zz, b1, b2, b3, fun hh => ?_, b5⟩
    obtain ⟨c1, c2, c3⟩ := b4 hh
    exact ⟨c1, by rw [List.append_assoc] at c2; exact c2, c3⟩
  · skip
    refine ex_iconst (pc := 8) (v := 0) dX7_either_8 (by decide) ?_
    refine ex_zret dX7_either_9 rfl (by first | exact Or.inl rfl | exact Or.inr rfl | exact bI_01 _) ?_
    have hx : (pr f 2 ts D u).1 = false := by
      cases e : (pr f 2 ts D u).1 with
      | false => rfl
      | true => exact absurd (ok3 e).1 (by rw [c_5]; decide)
    have e1 : pr (f + 1) 1 ts D u = (false, (pr f 2 ts D u).2.1, []) := by rw [pr, if_neg (by decide), if_pos (by decide)]; unfold prE; rw [if_neg (by rw [hx]; decide)]
    obtain ⟨-, A', hA', hT'⟩ := no3 hx
    rw [e1]
    exact qi_mk ⟨z3, zp3, tk3, f3, fun z => (by cases z), fun _ => ⟨rfl, A', hA', hT'⟩⟩
set_option maxHeartbeats 4000000 in
set_option maxRecDepth 100000 in
theorem c_M_both_l {g : Gl} {s tf : Nat → Int32} {tb : Nat → Nat} {tl la ky : Nat} (hB : TpOk tf tb) (hla : la + 194 ≤ 3090) (hky : ky < 3) {h : AH} {z : Nat → Int32} {d ks D u F : Nat} (hD : D ≤ 8) (hu : u ≤ 8) (hd : frm 2 D u ≤ d) (Hc : ∀ f, f ≤ F → CT g s tf tb tl la ky mX7_test [none] f 3) : ∀ (f : Nat), f ≤ F + 1 → ∀ (ts : List Tkn) (A : List Stq) (h1 : AH) (z1 : Nat → Int32), PS g h1 z1 s tf tl la A → TkM tb tl ky z1 ts → zP z z1 → FrX c7576 g h h1 → z1 21 = nI D → z1 22 = nI u → A.length + ts.length ≤ 96 → nee (10 + 2) ts.length ≤ f → Ex g mX7_both d 0 ks 10 [some (.ref (g.1 + 75)), some (.int (nI ky))] [] h1 (qi (PQ g s tf tb tl la ky (pr f (10 + 2) ts D u) D u A h z)) := by
  have hd1 : 4 ≤ d := by unfold frm at hd; omega
  intro f
  induction f with
  | zero =>
    intro hF0 ts A h1 z1 hP hk zp hF h21 h22 hlen hf
    unfold nee at hf
    rw [if_neg (by omega)] at hf
    omega
  | succ f ih =>
    intro hF0 ts A h1 z1 hP hk zp hF h21 h22 hlen hf
    by_cases hyes : ∃ t r, ts = t :: r ∧ rk t = 2
    · obtain ⟨t, r, rfl, hrk⟩ := hyes
      obtain ⟨hk2, hrc, -, -⟩ := rk_k (t := t) (by omega)
      have hvs : t.2.2.2 = 38 := by
        rw [hrc] at hrk
        unfold rkc at hrk
        (repeat' split at hrk) <;> omega
      have hs20 : z1 20 = nI t.2.2.2 := by
        rcases (TkM_s hB hk).1 with ⟨k, -⟩ | ⟨k, -⟩ | ⟨k, -, q, -⟩ | ⟨k, -⟩
        · omega
        · omega
        · exact q
        · omega
      have hv : t.2.2.2 = 38 := hvs
      refine ex_aload_n (pc := 10) dX7_both_10 rfl ?_
      refine ex_bipush (pc := 11) (v := (nI 38)) dX7_both_11 (by decide) ?_
      refine cx_VL1i (pc := 13) dX7_both_13 lk_X7_317 hP.1.1.1 rfl (Nat.le_of_ble_eq_true rfl) (Nat.le_of_ble_eq_true rfl) (by omega) (c_M_isSign hP.1 hB hk (c := 38) (by decide)) (fun h_13 x_13 q_13 => ?_)
      obtain ⟨e_13, f_13⟩ := q_13
      rw [e_13, f_13]
      refine bx_if_eq_f (pc := 16) (tgt := 43) dX7_both_16 (by decide) (by rw [bI_t (by unfold sgB; exact decide_eq_true ⟨hk2, hv⟩)]; decide) ?_
      refine ex_aload_n (pc := 19) dX7_both_19 rfl ?_
      refine cx_VL0v (pc := 20) dX7_both_20 lk_X7_320 hP.1.1.1 rfl (Nat.le_of_ble_eq_true rfl) (Nat.le_of_ble_eq_true rfl) (by omega) (c_M_nx hP.1 hB hk (by omega) (by unfold frm at hd; omega)) (fun h_20 q_20 => ?_)
      obtain ⟨z2, t2, k2, tk2, f2⟩ := q_20
      have hP2 := hP.k k2 t2
      refine ex_aload_n (pc := 23) dX7_both_23 rfl ?_
      refine ex_iload_n (pc := 24) dX7_both_24 rfl ?_
      refine cx_VL1i (pc := 25) dX7_both_25 lk_X7_327 t2.1.1 rfl (Nat.le_of_ble_eq_true rfl) (Nat.le_of_ble_eq_true rfl) (by omega) (Hc f (by omega) (d - 1) 0 r D u A h_20 z2 hP2 tk2 ((k2 21 (by omega)).trans h21) ((k2 22 (by omega)).trans h22) hD hu (by rw [List.length_cons] at hlen; omega) (by rw [List.length_cons] at hf; unfold nee at hf ⊢; rw [if_neg (by omega)] at hf; rw [if_pos (by omega)]; omega) (by unfold frm at hd ⊢; omega)) (fun h_25 x_25 q_25 => ?_)
      obtain ⟨z3, zp3, tk3, f3, ok3, no3⟩ := q_25
      refine ex_if_ne (pc := 28) (tgt := 33) dX7_both_28 (by decide) (fun c_28 => ?_) (fun c_28 => ?_)
      · skip
        have hx : (pr f 3 r D u).1 = true := by
          cases e : (pr f 3 r D u).1 with
          | true => rfl
          | false => exact absurd (no3 e).1 c_28
        obtain ⟨-, hP3, h21c, h22c⟩ := ok3 hx
        have hlen3 := prLen f 3 r D u
        refine ex_aload_n (pc := 33) dX7_both_33 rfl ?_
        refine ex_iconst (pc := 34) (v := (nI 2)) dX7_both_34 (by decide) ?_
        refine ex_bipush (pc := 35) (v := (nI 38)) dX7_both_35 (by decide) ?_
        refine cx_VL2v (pc := 37) dX7_both_37 lk_X7_323 hP3.1.1.1 rfl (Nat.le_of_ble_eq_true rfl) (Nat.le_of_ble_eq_true rfl) (by omega) (c_M_step hP3 (by rw [List.length_append]; rw [List.length_cons] at hlen; omega) 2 38) (fun h_37 q_37 => ?_)
        obtain ⟨t4, f4⟩ := q_37
        have hP4 := hP3.sg t4
        refine ex_goto (pc := 40) (tgt := 10) dX7_both_40 (by decide) ?_
        have e1 : pr (f + 1) (10 + 2) (t :: r) D u = ((pr f (10 + 2) (pr f 3 r D u).2.1 D u).1, (pr f (10 + 2) (pr f 3 r D u).2.1 D u).2.1, (pr f 3 r D u).2.2 ++ (2, 38) :: (pr f (10 + 2) (pr f 3 r D u).2.1 D u).2.2) := by
          rw [prLoop (by omega)]
          have qq := prL_t (q := pr f) hrk (by decide) hx
          rw [hv] at qq
          exact qq
        rw [e1]
        refine (ih (by omega) _ (A ++ (pr f 3 r D u).2.2 ++ [(2, 38)]) _ _ hP4 (tk3.c (fun k h1 h2 => upd_ne (by omega))) (((zp.tr k2.p).tr zp3).tr (zP.up (by omega) (by omega))) (((hF.tr (c75_76 f2)).tr f3).tr f4) ((upd_ne (by decide)).trans h21c) ((upd_ne (by decide)).trans h22c) (by rw [List.length_append, List.length_append]; rw [List.length_cons] at hlen; simp only [List.length_cons, List.length_nil]; omega) (by rw [List.length_cons] at hf; unfold nee at hf ⊢; rw [if_neg (by omega)] at hf; rw [if_neg (by omega)]; omega)).mono (fun h' r' q => ?_)
        obtain ⟨x, e, zz, b1, b2, b3, b4, b5⟩ := q
        refine ⟨x, e, zz, b1, b2, b3, fun hh => ?_, b5⟩
        obtain ⟨c1, c2, c3⟩ := b4 hh
        exact ⟨c1, by rw [List.append_assoc, List.append_assoc, List.singleton_append] at c2; exact c2, c3⟩
      · skip
        refine ex_iconst (pc := 31) (v := 0) dX7_both_31 (by decide) ?_
        refine ex_zret dX7_both_32 rfl (by first | exact Or.inl rfl | exact Or.inr rfl | exact bI_01 _) ?_
        have hx : (pr f 3 r D u).1 = false := by
          cases e : (pr f 3 r D u).1 with
          | false => rfl
          | true => exact absurd (ok3 e).1 (by rw [c_28]; decide)
        have e1 : pr (f + 1) (10 + 2) (t :: r) D u = (false, (pr f 3 r D u).2.1, []) := by rw [prLoop (by omega)]; exact prL_f hrk hx
        obtain ⟨-, A', hA', hT'⟩ := no3 hx
        rw [e1]
        exact qi_mk ⟨z3, (zp.tr k2.p).tr zp3, tk3, (hF.tr (c75_76 f2)).tr f3, fun z => (by cases z), fun _ => ⟨rfl, A', hA', hT'⟩⟩
    · have hno : ∀ t r, ts = t :: r → ¬ rk t = 2 := fun t r e q => hyes ⟨t, r, e, q⟩
      refine ex_aload_n (pc := 10) dX7_both_10 rfl ?_
      refine ex_bipush (pc := 11) (v := (nI 38)) dX7_both_11 (by decide) ?_
      refine cx_VL1i (pc := 13) dX7_both_13 lk_X7_317 hP.1.1.1 rfl (Nat.le_of_ble_eq_true rfl) (Nat.le_of_ble_eq_true rfl) (by omega) (c_M_isSign hP.1 hB hk (c := 38) (by decide)) (fun h_13 x_13 q_13 => ?_)
      obtain ⟨e_13, f_13⟩ := q_13
      rw [e_13, f_13]
      refine bx_if_eq_t (pc := 16) (tgt := 43) dX7_both_16 (by decide) (bI_f (by rw [sg_no hno (show rkc 38 = 2 by decide)]; decide)) ?_
      refine ex_iconst (pc := 43) (v := 1) dX7_both_43 (by decide) ?_
      refine ex_zret dX7_both_44 rfl (by first | exact Or.inl rfl | exact Or.inr rfl | exact bI_01 _) ?_
      have e1 : pr (f + 1) (10 + 2) ts D u = (true, ts, []) := by rw [prLoop (by omega)]; exact prL_no hno
      rw [e1]
      exact qi_mk ⟨z1, zp, hk, hF, fun _ => ⟨rfl, by rw [List.append_nil]; exact hP, h21, h22⟩, fun z => by cases z⟩
set_option maxHeartbeats 4000000 in
set_option maxRecDepth 100000 in
theorem c_M_both {g : Gl} {s tf : Nat → Int32} {tb : Nat → Nat} {tl la ky : Nat} (hB : TpOk tf tb) (hla : la + 194 ≤ 3090) (hky : ky < 3) {f : Nat} (Hc : ∀ f', f' ≤ f → CT g s tf tb tl la ky mX7_test [none] f' 3) : CT g s tf tb tl la ky mX7_both [] (f + 1) 2 := by
  intro d ks ts D u A h z hP hk h21 h22 hD hu hlen hf hd
  have hd1 : 4 ≤ d := by unfold frm at hd; omega
  refine ex_aload_n (pc := 0) dX7_both_0 rfl ?_
  refine ex_iload_n (pc := 1) dX7_both_1 rfl ?_
  refine cx_VL1i (pc := 2) dX7_both_2 lk_X7_327 hP.1.1.1 rfl (Nat.le_of_ble_eq_true rfl) (Nat.le_of_ble_eq_true rfl) (by omega) (Hc f (Nat.le_refl _) (d - 1) 0 ts D u A h z hP hk h21 h22 hD hu hlen (by unfold nee at hf ⊢; rw [if_pos (by omega)] at hf; rw [if_pos (by omega)]; omega) (by unfold frm at hd ⊢; omega)) (fun h_2 x_2 q_2 => ?_)
  obtain ⟨z3, zp3, tk3, f3, ok3, no3⟩ := q_2
  refine ex_if_ne (pc := 5) (tgt := 10) dX7_both_5 (by decide) (fun c_5 => ?_) (fun c_5 => ?_)
  · skip
    have hx : (pr f 3 ts D u).1 = true := by
      cases e : (pr f 3 ts D u).1 with
      | true => rfl
      | false => exact absurd (no3 e).1 c_5
    obtain ⟨-, hP3, h21c, h22c⟩ := ok3 hx
    have hlen3 := prLen f 3 ts D u
    have hcl : (pr f 3 ts D u).2.1.length < ts.length := (((prOk f 3 ts D u (by unfold nee at hf ⊢; rw [if_pos (by omega)] at hf; rw [if_pos (by omega)]; omega)).2.1 (by omega) (by omega) [] [] (fun c τ e => by cases e)).1 hx).elim (fun τ q => q.elim (fun B q => q.2.2.2))
    have e1 : pr (f + 1) 2 ts D u = ((pr f (10 + 2) (pr f 3 ts D u).2.1 D u).1, (pr f (10 + 2) (pr f 3 ts D u).2.1 D u).2.1, (pr f 3 ts D u).2.2 ++ (pr f (10 + 2) (pr f 3 ts D u).2.1 D u).2.2) := by rw [pr, if_neg (by decide), if_pos (by decide)]; unfold prE; rw [if_pos hx]
    rw [e1]
    refine (c_M_both_l hB hla hky (h := h) (z := z) hD hu hd Hc f (by omega) _ _ h_2 z3 hP3 tk3 zp3 f3 h21c h22c (by rw [List.length_append]; omega) (by unfold nee at hf ⊢; rw [if_pos (by omega)] at hf; rw [if_neg (by omega)]; omega)).mono (fun h' r' q => ?_)
    obtain ⟨x, e, zz, b1, b2, b3, b4, b5⟩ := q
    refine ⟨x, e, zz, b1, b2, b3, fun hh => ?_, b5⟩
    obtain ⟨c1, c2, c3⟩ := b4 hh
    exact ⟨c1, by rw [List.append_assoc] at c2; exact c2, c3⟩
  · skip
    refine ex_iconst (pc := 8) (v := 0) dX7_both_8 (by decide) ?_
    refine ex_zret dX7_both_9 rfl (by first | exact Or.inl rfl | exact Or.inr rfl | exact bI_01 _) ?_
    have hx : (pr f 3 ts D u).1 = false := by
      cases e : (pr f 3 ts D u).1 with
      | false => rfl
      | true => exact absurd (ok3 e).1 (by rw [c_5]; decide)
    have e1 : pr (f + 1) 2 ts D u = (false, (pr f 3 ts D u).2.1, []) := by rw [pr, if_neg (by decide), if_pos (by decide)]; unfold prE; rw [if_neg (by rw [hx]; decide)]
    obtain ⟨-, A', hA', hT'⟩ := no3 hx
    rw [e1]
    exact qi_mk ⟨z3, zp3, tk3, f3, fun z => (by cases z), fun _ => ⟨rfl, A', hA', hT'⟩⟩
set_option maxHeartbeats 4000000 in
set_option maxRecDepth 100000 in
theorem c_M_test_l {g : Gl} {s tf : Nat → Int32} {tb : Nat → Nat} {tl la ky : Nat} (hB : TpOk tf tb) (hla : la + 194 ≤ 3090) (hky : ky < 3) {h : AH} {z : Nat → Int32} {d ks D u F : Nat} (hD : D ≤ 8) (hu : u ≤ 8) (hd : frm 3 D u ≤ d) (Hc : ∀ f, f ≤ F → CT g s tf tb tl la ky mX7_sum [none] f 4) : ∀ (f : Nat), f ≤ F + 1 → ∀ (ts : List Tkn) (l2 : Option Value) (A : List Stq) (h1 : AH) (z1 : Nat → Int32), PS g h1 z1 s tf tl la A → TkM tb tl ky z1 ts → zP z z1 → FrX c7576 g h h1 → z1 21 = nI D → z1 22 = nI u → A.length + ts.length ≤ 96 → nee (10 + 3) ts.length ≤ f → Ex g mX7_test d 0 ks 10 [some (.ref (g.1 + 75)), some (.int (nI ky)), l2] [] h1 (qi (PQ g s tf tb tl la ky (pr f (10 + 3) ts D u) D u A h z)) := by
  have hd1 : 4 ≤ d := by unfold frm at hd; omega
  intro f
  induction f with
  | zero =>
    intro hF0 ts l2 A h1 z1 hP hk zp hF h21 h22 hlen hf
    unfold nee at hf
    rw [if_neg (by omega)] at hf
    omega
  | succ f ih =>
    intro hF0 ts l2 A h1 z1 hP hk zp hF h21 h22 hlen hf
    by_cases hyes : ∃ t r, ts = t :: r ∧ rk t = 3
    · obtain ⟨t, r, rfl, hrk⟩ := hyes
      obtain ⟨hk2, hrc, -, -⟩ := rk_k (t := t) (by omega)
      have hvs : t.2.2.2 = 60 ∨ t.2.2.2 = 61 ∨ t.2.2.2 = 62 := by
        rw [hrc] at hrk
        unfold rkc at hrk
        (repeat' split at hrk) <;> omega
      have hs20 : z1 20 = nI t.2.2.2 := by
        rcases (TkM_s hB hk).1 with ⟨k, -⟩ | ⟨k, -⟩ | ⟨k, -, q, -⟩ | ⟨k, -⟩
        · omega
        · omega
        · exact q
        · omega
      rcases hvs with hv | hv | hv
      · have hl20 : z1 20 = nI 60 := by rw [← hv]; exact hs20
        refine ex_aload_n (pc := 10) dX7_test_10 rfl ?_
        refine ex_bipush (pc := 11) (v := (nI 60)) dX7_test_11 (by decide) ?_
        refine cx_VL1i (pc := 13) dX7_test_13 lk_X7_317 hP.1.1.1 rfl (Nat.le_of_ble_eq_true rfl) (Nat.le_of_ble_eq_true rfl) (by omega) (c_M_isSign hP.1 hB hk (c := 60) (by decide)) (fun h_13 x_13 q_13 => ?_)
        obtain ⟨e_13, f_13⟩ := q_13
        rw [e_13, f_13]
        refine bx_if_ne_t (pc := 16) (tgt := 37) dX7_test_16 (by decide) (by rw [bI_t (by unfold sgB; exact decide_eq_true ⟨hk2, hv⟩)]; decide) ?_
        refine ex_aload_n (pc := 37) dX7_test_37 rfl ?_
        refine ex_get (pc := 38) dX7_test_38 fl_X7_292 hP.1.1.1 rfl ?_
        rw [hl20]
        refine sx_istore_n (pc := 41) dX7_test_41 rfl (by decide) ?_
        show Ex _ _ _ _ _ _ [_, _, _] _ _ _
        refine ex_aload_n (pc := 42) dX7_test_42 rfl ?_
        refine cx_VL0v (pc := 43) dX7_test_43 lk_X7_320 hP.1.1.1 rfl (Nat.le_of_ble_eq_true rfl) (Nat.le_of_ble_eq_true rfl) (by omega) (c_M_nx hP.1 hB hk (by omega) (by unfold frm at hd; omega)) (fun h_43 q_43 => ?_)
        obtain ⟨z2, t2, k2, tk2, f2⟩ := q_43
        have hP2 := hP.k k2 t2
        refine ex_aload_n (pc := 46) dX7_test_46 rfl ?_
        refine ex_iload_n (pc := 47) dX7_test_47 rfl ?_
        refine cx_VL1i (pc := 48) dX7_test_48 lk_X7_330 t2.1.1 rfl (Nat.le_of_ble_eq_true rfl) (Nat.le_of_ble_eq_true rfl) (by omega) (Hc f (by omega) (d - 1) 0 r D u A h_43 z2 hP2 tk2 ((k2 21 (by omega)).trans h21) ((k2 22 (by omega)).trans h22) hD hu (by rw [List.length_cons] at hlen; omega) (by rw [List.length_cons] at hf; unfold nee at hf ⊢; rw [if_neg (by omega)] at hf; rw [if_pos (by omega)]; omega) (by unfold frm at hd ⊢; omega)) (fun h_48 x_48 q_48 => ?_)
        obtain ⟨z3, zp3, tk3, f3, ok3, no3⟩ := q_48
        refine ex_if_ne (pc := 51) (tgt := 56) dX7_test_51 (by decide) (fun c_51 => ?_) (fun c_51 => ?_)
        · skip
          have hx : (pr f 4 r D u).1 = true := by
            cases e : (pr f 4 r D u).1 with
            | true => rfl
            | false => exact absurd (no3 e).1 c_51
          obtain ⟨-, hP3, h21c, h22c⟩ := ok3 hx
          have hlen3 := prLen f 4 r D u
          refine ex_aload_n (pc := 56) dX7_test_56 rfl ?_
          refine ex_iconst (pc := 57) (v := (nI 2)) dX7_test_57 (by decide) ?_
          refine ex_iload_n (pc := 58) dX7_test_58 rfl ?_
          refine cx_VL2v (pc := 59) dX7_test_59 lk_X7_323 hP3.1.1.1 rfl (Nat.le_of_ble_eq_true rfl) (Nat.le_of_ble_eq_true rfl) (by omega) (c_M_step hP3 (by rw [List.length_append]; rw [List.length_cons] at hlen; omega) 2 60) (fun h_59 q_59 => ?_)
          obtain ⟨t4, f4⟩ := q_59
          have hP4 := hP3.sg t4
          refine ex_iconst (pc := 62) (v := 1) dX7_test_62 (by decide) ?_
          refine ex_zret dX7_test_63 rfl (by first | exact Or.inl rfl | exact Or.inr rfl | exact bI_01 _) ?_
          have e1 : pr (f + 1) (10 + 3) (t :: r) D u = (true, (pr f 4 r D u).2.1, (pr f 4 r D u).2.2 ++ [(2, 60)]) := by
            rw [prLoop (by omega)]
            have qq := prL_3 (q := pr f) hrk hx
            rw [hv] at qq
            exact qq
          rw [e1]
          exact qi_mk ⟨_, ((zp.tr k2.p).tr zp3).tr (zP.up (k := 23) (by omega) (by omega)), tk3.c (fun k h1 h2 => upd_ne (by omega)), ((hF.tr (c75_76 f2)).tr f3).tr f4, fun _ => ⟨rfl, by rw [← List.append_assoc]; exact hP4, (upd_ne (by decide)).trans h21c, (upd_ne (by decide)).trans h22c⟩, fun z => (by cases z)⟩
        · skip
          refine ex_iconst (pc := 54) (v := 0) dX7_test_54 (by decide) ?_
          refine ex_zret dX7_test_55 rfl (by first | exact Or.inl rfl | exact Or.inr rfl | exact bI_01 _) ?_
          have hx : (pr f 4 r D u).1 = false := by
            cases e : (pr f 4 r D u).1 with
            | false => rfl
            | true => exact absurd (ok3 e).1 (by rw [c_51]; decide)
          have e1 : pr (f + 1) (10 + 3) (t :: r) D u = (false, (pr f 4 r D u).2.1, []) := by rw [prLoop (by omega)]; exact prL_f hrk hx
          obtain ⟨-, A', hA', hT'⟩ := no3 hx
          rw [e1]
          exact qi_mk ⟨z3, (zp.tr k2.p).tr zp3, tk3, (hF.tr (c75_76 f2)).tr f3, fun z => (by cases z), fun _ => ⟨rfl, A', hA', hT'⟩⟩
      · have hl20 : z1 20 = nI 61 := by rw [← hv]; exact hs20
        refine ex_aload_n (pc := 10) dX7_test_10 rfl ?_
        refine ex_bipush (pc := 11) (v := (nI 60)) dX7_test_11 (by decide) ?_
        refine cx_VL1i (pc := 13) dX7_test_13 lk_X7_317 hP.1.1.1 rfl (Nat.le_of_ble_eq_true rfl) (Nat.le_of_ble_eq_true rfl) (by omega) (c_M_isSign hP.1 hB hk (c := 60) (by decide)) (fun h_13 x_13 q_13 => ?_)
        obtain ⟨e_13, f_13⟩ := q_13
        rw [e_13, f_13]
        refine bx_if_ne_f (pc := 16) (tgt := 37) dX7_test_16 (by decide) (bI_f (by rw [sg_ne (by rw [hv]; decide)]; decide)) ?_
        refine ex_aload_n (pc := 19) dX7_test_19 rfl ?_
        refine ex_bipush (pc := 20) (v := (nI 61)) dX7_test_20 (by decide) ?_
        refine cx_VL1i (pc := 22) dX7_test_22 lk_X7_317 hP.1.1.1 rfl (Nat.le_of_ble_eq_true rfl) (Nat.le_of_ble_eq_true rfl) (by omega) (c_M_isSign hP.1 hB hk (c := 61) (by decide)) (fun h_22 x_22 q_22 => ?_)
        obtain ⟨e_22, f_22⟩ := q_22
        rw [e_22, f_22]
        refine bx_if_ne_t (pc := 25) (tgt := 37) dX7_test_25 (by decide) (by rw [bI_t (by unfold sgB; exact decide_eq_true ⟨hk2, hv⟩)]; decide) ?_
        refine ex_aload_n (pc := 37) dX7_test_37 rfl ?_
        refine ex_get (pc := 38) dX7_test_38 fl_X7_292 hP.1.1.1 rfl ?_
        rw [hl20]
        refine sx_istore_n (pc := 41) dX7_test_41 rfl (by decide) ?_
        show Ex _ _ _ _ _ _ [_, _, _] _ _ _
        refine ex_aload_n (pc := 42) dX7_test_42 rfl ?_
        refine cx_VL0v (pc := 43) dX7_test_43 lk_X7_320 hP.1.1.1 rfl (Nat.le_of_ble_eq_true rfl) (Nat.le_of_ble_eq_true rfl) (by omega) (c_M_nx hP.1 hB hk (by omega) (by unfold frm at hd; omega)) (fun h_43 q_43 => ?_)
        obtain ⟨z2, t2, k2, tk2, f2⟩ := q_43
        have hP2 := hP.k k2 t2
        refine ex_aload_n (pc := 46) dX7_test_46 rfl ?_
        refine ex_iload_n (pc := 47) dX7_test_47 rfl ?_
        refine cx_VL1i (pc := 48) dX7_test_48 lk_X7_330 t2.1.1 rfl (Nat.le_of_ble_eq_true rfl) (Nat.le_of_ble_eq_true rfl) (by omega) (Hc f (by omega) (d - 1) 0 r D u A h_43 z2 hP2 tk2 ((k2 21 (by omega)).trans h21) ((k2 22 (by omega)).trans h22) hD hu (by rw [List.length_cons] at hlen; omega) (by rw [List.length_cons] at hf; unfold nee at hf ⊢; rw [if_neg (by omega)] at hf; rw [if_pos (by omega)]; omega) (by unfold frm at hd ⊢; omega)) (fun h_48 x_48 q_48 => ?_)
        obtain ⟨z3, zp3, tk3, f3, ok3, no3⟩ := q_48
        refine ex_if_ne (pc := 51) (tgt := 56) dX7_test_51 (by decide) (fun c_51 => ?_) (fun c_51 => ?_)
        · skip
          have hx : (pr f 4 r D u).1 = true := by
            cases e : (pr f 4 r D u).1 with
            | true => rfl
            | false => exact absurd (no3 e).1 c_51
          obtain ⟨-, hP3, h21c, h22c⟩ := ok3 hx
          have hlen3 := prLen f 4 r D u
          refine ex_aload_n (pc := 56) dX7_test_56 rfl ?_
          refine ex_iconst (pc := 57) (v := (nI 2)) dX7_test_57 (by decide) ?_
          refine ex_iload_n (pc := 58) dX7_test_58 rfl ?_
          refine cx_VL2v (pc := 59) dX7_test_59 lk_X7_323 hP3.1.1.1 rfl (Nat.le_of_ble_eq_true rfl) (Nat.le_of_ble_eq_true rfl) (by omega) (c_M_step hP3 (by rw [List.length_append]; rw [List.length_cons] at hlen; omega) 2 61) (fun h_59 q_59 => ?_)
          obtain ⟨t4, f4⟩ := q_59
          have hP4 := hP3.sg t4
          refine ex_iconst (pc := 62) (v := 1) dX7_test_62 (by decide) ?_
          refine ex_zret dX7_test_63 rfl (by first | exact Or.inl rfl | exact Or.inr rfl | exact bI_01 _) ?_
          have e1 : pr (f + 1) (10 + 3) (t :: r) D u = (true, (pr f 4 r D u).2.1, (pr f 4 r D u).2.2 ++ [(2, 61)]) := by
            rw [prLoop (by omega)]
            have qq := prL_3 (q := pr f) hrk hx
            rw [hv] at qq
            exact qq
          rw [e1]
          exact qi_mk ⟨_, ((zp.tr k2.p).tr zp3).tr (zP.up (k := 23) (by omega) (by omega)), tk3.c (fun k h1 h2 => upd_ne (by omega)), ((hF.tr (c75_76 f2)).tr f3).tr f4, fun _ => ⟨rfl, by rw [← List.append_assoc]; exact hP4, (upd_ne (by decide)).trans h21c, (upd_ne (by decide)).trans h22c⟩, fun z => (by cases z)⟩
        · skip
          refine ex_iconst (pc := 54) (v := 0) dX7_test_54 (by decide) ?_
          refine ex_zret dX7_test_55 rfl (by first | exact Or.inl rfl | exact Or.inr rfl | exact bI_01 _) ?_
          have hx : (pr f 4 r D u).1 = false := by
            cases e : (pr f 4 r D u).1 with
            | false => rfl
            | true => exact absurd (ok3 e).1 (by rw [c_51]; decide)
          have e1 : pr (f + 1) (10 + 3) (t :: r) D u = (false, (pr f 4 r D u).2.1, []) := by rw [prLoop (by omega)]; exact prL_f hrk hx
          obtain ⟨-, A', hA', hT'⟩ := no3 hx
          rw [e1]
          exact qi_mk ⟨z3, (zp.tr k2.p).tr zp3, tk3, (hF.tr (c75_76 f2)).tr f3, fun z => (by cases z), fun _ => ⟨rfl, A', hA', hT'⟩⟩
      · have hl20 : z1 20 = nI 62 := by rw [← hv]; exact hs20
        refine ex_aload_n (pc := 10) dX7_test_10 rfl ?_
        refine ex_bipush (pc := 11) (v := (nI 60)) dX7_test_11 (by decide) ?_
        refine cx_VL1i (pc := 13) dX7_test_13 lk_X7_317 hP.1.1.1 rfl (Nat.le_of_ble_eq_true rfl) (Nat.le_of_ble_eq_true rfl) (by omega) (c_M_isSign hP.1 hB hk (c := 60) (by decide)) (fun h_13 x_13 q_13 => ?_)
        obtain ⟨e_13, f_13⟩ := q_13
        rw [e_13, f_13]
        refine bx_if_ne_f (pc := 16) (tgt := 37) dX7_test_16 (by decide) (bI_f (by rw [sg_ne (by rw [hv]; decide)]; decide)) ?_
        refine ex_aload_n (pc := 19) dX7_test_19 rfl ?_
        refine ex_bipush (pc := 20) (v := (nI 61)) dX7_test_20 (by decide) ?_
        refine cx_VL1i (pc := 22) dX7_test_22 lk_X7_317 hP.1.1.1 rfl (Nat.le_of_ble_eq_true rfl) (Nat.le_of_ble_eq_true rfl) (by omega) (c_M_isSign hP.1 hB hk (c := 61) (by decide)) (fun h_22 x_22 q_22 => ?_)
        obtain ⟨e_22, f_22⟩ := q_22
        rw [e_22, f_22]
        refine bx_if_ne_f (pc := 25) (tgt := 37) dX7_test_25 (by decide) (bI_f (by rw [sg_ne (by rw [hv]; decide)]; decide)) ?_
        refine ex_aload_n (pc := 28) dX7_test_28 rfl ?_
        refine ex_bipush (pc := 29) (v := (nI 62)) dX7_test_29 (by decide) ?_
        refine cx_VL1i (pc := 31) dX7_test_31 lk_X7_317 hP.1.1.1 rfl (Nat.le_of_ble_eq_true rfl) (Nat.le_of_ble_eq_true rfl) (by omega) (c_M_isSign hP.1 hB hk (c := 62) (by decide)) (fun h_31 x_31 q_31 => ?_)
        obtain ⟨e_31, f_31⟩ := q_31
        rw [e_31, f_31]
        refine bx_if_eq_f (pc := 34) (tgt := 62) dX7_test_34 (by decide) (by rw [bI_t (by unfold sgB; exact decide_eq_true ⟨hk2, hv⟩)]; decide) ?_
        refine ex_aload_n (pc := 37) dX7_test_37 rfl ?_
        refine ex_get (pc := 38) dX7_test_38 fl_X7_292 hP.1.1.1 rfl ?_
        rw [hl20]
        refine sx_istore_n (pc := 41) dX7_test_41 rfl (by decide) ?_
        show Ex _ _ _ _ _ _ [_, _, _] _ _ _
        refine ex_aload_n (pc := 42) dX7_test_42 rfl ?_
        refine cx_VL0v (pc := 43) dX7_test_43 lk_X7_320 hP.1.1.1 rfl (Nat.le_of_ble_eq_true rfl) (Nat.le_of_ble_eq_true rfl) (by omega) (c_M_nx hP.1 hB hk (by omega) (by unfold frm at hd; omega)) (fun h_43 q_43 => ?_)
        obtain ⟨z2, t2, k2, tk2, f2⟩ := q_43
        have hP2 := hP.k k2 t2
        refine ex_aload_n (pc := 46) dX7_test_46 rfl ?_
        refine ex_iload_n (pc := 47) dX7_test_47 rfl ?_
        refine cx_VL1i (pc := 48) dX7_test_48 lk_X7_330 t2.1.1 rfl (Nat.le_of_ble_eq_true rfl) (Nat.le_of_ble_eq_true rfl) (by omega) (Hc f (by omega) (d - 1) 0 r D u A h_43 z2 hP2 tk2 ((k2 21 (by omega)).trans h21) ((k2 22 (by omega)).trans h22) hD hu (by rw [List.length_cons] at hlen; omega) (by rw [List.length_cons] at hf; unfold nee at hf ⊢; rw [if_neg (by omega)] at hf; rw [if_pos (by omega)]; omega) (by unfold frm at hd ⊢; omega)) (fun h_48 x_48 q_48 => ?_)
        obtain ⟨z3, zp3, tk3, f3, ok3, no3⟩ := q_48
        refine ex_if_ne (pc := 51) (tgt := 56) dX7_test_51 (by decide) (fun c_51 => ?_) (fun c_51 => ?_)
        · skip
          have hx : (pr f 4 r D u).1 = true := by
            cases e : (pr f 4 r D u).1 with
            | true => rfl
            | false => exact absurd (no3 e).1 c_51
          obtain ⟨-, hP3, h21c, h22c⟩ := ok3 hx
          have hlen3 := prLen f 4 r D u
          refine ex_aload_n (pc := 56) dX7_test_56 rfl ?_
          refine ex_iconst (pc := 57) (v := (nI 2)) dX7_test_57 (by decide) ?_
          refine ex_iload_n (pc := 58) dX7_test_58 rfl ?_
          refine cx_VL2v (pc := 59) dX7_test_59 lk_X7_323 hP3.1.1.1 rfl (Nat.le_of_ble_eq_true rfl) (Nat.le_of_ble_eq_true rfl) (by omega) (c_M_step hP3 (by rw [List.length_append]; rw [List.length_cons] at hlen; omega) 2 62) (fun h_59 q_59 => ?_)
          obtain ⟨t4, f4⟩ := q_59
          have hP4 := hP3.sg t4
          refine ex_iconst (pc := 62) (v := 1) dX7_test_62 (by decide) ?_
          refine ex_zret dX7_test_63 rfl (by first | exact Or.inl rfl | exact Or.inr rfl | exact bI_01 _) ?_
          have e1 : pr (f + 1) (10 + 3) (t :: r) D u = (true, (pr f 4 r D u).2.1, (pr f 4 r D u).2.2 ++ [(2, 62)]) := by
            rw [prLoop (by omega)]
            have qq := prL_3 (q := pr f) hrk hx
            rw [hv] at qq
            exact qq
          rw [e1]
          exact qi_mk ⟨_, ((zp.tr k2.p).tr zp3).tr (zP.up (k := 23) (by omega) (by omega)), tk3.c (fun k h1 h2 => upd_ne (by omega)), ((hF.tr (c75_76 f2)).tr f3).tr f4, fun _ => ⟨rfl, by rw [← List.append_assoc]; exact hP4, (upd_ne (by decide)).trans h21c, (upd_ne (by decide)).trans h22c⟩, fun z => (by cases z)⟩
        · skip
          refine ex_iconst (pc := 54) (v := 0) dX7_test_54 (by decide) ?_
          refine ex_zret dX7_test_55 rfl (by first | exact Or.inl rfl | exact Or.inr rfl | exact bI_01 _) ?_
          have hx : (pr f 4 r D u).1 = false := by
            cases e : (pr f 4 r D u).1 with
            | false => rfl
            | true => exact absurd (ok3 e).1 (by rw [c_51]; decide)
          have e1 : pr (f + 1) (10 + 3) (t :: r) D u = (false, (pr f 4 r D u).2.1, []) := by rw [prLoop (by omega)]; exact prL_f hrk hx
          obtain ⟨-, A', hA', hT'⟩ := no3 hx
          rw [e1]
          exact qi_mk ⟨z3, (zp.tr k2.p).tr zp3, tk3, (hF.tr (c75_76 f2)).tr f3, fun z => (by cases z), fun _ => ⟨rfl, A', hA', hT'⟩⟩
    · have hno : ∀ t r, ts = t :: r → ¬ rk t = 3 := fun t r e q => hyes ⟨t, r, e, q⟩
      refine ex_aload_n (pc := 10) dX7_test_10 rfl ?_
      refine ex_bipush (pc := 11) (v := (nI 60)) dX7_test_11 (by decide) ?_
      refine cx_VL1i (pc := 13) dX7_test_13 lk_X7_317 hP.1.1.1 rfl (Nat.le_of_ble_eq_true rfl) (Nat.le_of_ble_eq_true rfl) (by omega) (c_M_isSign hP.1 hB hk (c := 60) (by decide)) (fun h_13 x_13 q_13 => ?_)
      obtain ⟨e_13, f_13⟩ := q_13
      rw [e_13, f_13]
      refine bx_if_ne_f (pc := 16) (tgt := 37) dX7_test_16 (by decide) (bI_f (by rw [sg_no hno (show rkc 60 = 3 by decide)]; decide)) ?_
      refine ex_aload_n (pc := 19) dX7_test_19 rfl ?_
      refine ex_bipush (pc := 20) (v := (nI 61)) dX7_test_20 (by decide) ?_
      refine cx_VL1i (pc := 22) dX7_test_22 lk_X7_317 hP.1.1.1 rfl (Nat.le_of_ble_eq_true rfl) (Nat.le_of_ble_eq_true rfl) (by omega) (c_M_isSign hP.1 hB hk (c := 61) (by decide)) (fun h_22 x_22 q_22 => ?_)
      obtain ⟨e_22, f_22⟩ := q_22
      rw [e_22, f_22]
      refine bx_if_ne_f (pc := 25) (tgt := 37) dX7_test_25 (by decide) (bI_f (by rw [sg_no hno (show rkc 61 = 3 by decide)]; decide)) ?_
      refine ex_aload_n (pc := 28) dX7_test_28 rfl ?_
      refine ex_bipush (pc := 29) (v := (nI 62)) dX7_test_29 (by decide) ?_
      refine cx_VL1i (pc := 31) dX7_test_31 lk_X7_317 hP.1.1.1 rfl (Nat.le_of_ble_eq_true rfl) (Nat.le_of_ble_eq_true rfl) (by omega) (c_M_isSign hP.1 hB hk (c := 62) (by decide)) (fun h_31 x_31 q_31 => ?_)
      obtain ⟨e_31, f_31⟩ := q_31
      rw [e_31, f_31]
      refine bx_if_eq_t (pc := 34) (tgt := 62) dX7_test_34 (by decide) (bI_f (by rw [sg_no hno (show rkc 62 = 3 by decide)]; decide)) ?_
      refine ex_iconst (pc := 62) (v := 1) dX7_test_62 (by decide) ?_
      refine ex_zret dX7_test_63 rfl (by first | exact Or.inl rfl | exact Or.inr rfl | exact bI_01 _) ?_
      have e1 : pr (f + 1) (10 + 3) ts D u = (true, ts, []) := by rw [prLoop (by omega)]; exact prL_no hno
      rw [e1]
      exact qi_mk ⟨z1, zp, hk, hF, fun _ => ⟨rfl, by rw [List.append_nil]; exact hP, h21, h22⟩, fun z => by cases z⟩
set_option maxHeartbeats 4000000 in
set_option maxRecDepth 100000 in
theorem c_M_test {g : Gl} {s tf : Nat → Int32} {tb : Nat → Nat} {tl la ky : Nat} (hB : TpOk tf tb) (hla : la + 194 ≤ 3090) (hky : ky < 3) {f : Nat} (Hc : ∀ f', f' ≤ f → CT g s tf tb tl la ky mX7_sum [none] f' 4) : CT g s tf tb tl la ky mX7_test [none] (f + 1) 3 := by
  intro d ks ts D u A h z hP hk h21 h22 hD hu hlen hf hd
  have hd1 : 4 ≤ d := by unfold frm at hd; omega
  refine ex_aload_n (pc := 0) dX7_test_0 rfl ?_
  refine ex_iload_n (pc := 1) dX7_test_1 rfl ?_
  refine cx_VL1i (pc := 2) dX7_test_2 lk_X7_330 hP.1.1.1 rfl (Nat.le_of_ble_eq_true rfl) (Nat.le_of_ble_eq_true rfl) (by omega) (Hc f (Nat.le_refl _) (d - 1) 0 ts D u A h z hP hk h21 h22 hD hu hlen (by unfold nee at hf ⊢; rw [if_pos (by omega)] at hf; rw [if_pos (by omega)]; omega) (by unfold frm at hd ⊢; omega)) (fun h_2 x_2 q_2 => ?_)
  obtain ⟨z3, zp3, tk3, f3, ok3, no3⟩ := q_2
  refine ex_if_ne (pc := 5) (tgt := 10) dX7_test_5 (by decide) (fun c_5 => ?_) (fun c_5 => ?_)
  · skip
    have hx : (pr f 4 ts D u).1 = true := by
      cases e : (pr f 4 ts D u).1 with
      | true => rfl
      | false => exact absurd (no3 e).1 c_5
    obtain ⟨-, hP3, h21c, h22c⟩ := ok3 hx
    have hlen3 := prLen f 4 ts D u
    have hcl : (pr f 4 ts D u).2.1.length < ts.length := (((prOk f 4 ts D u (by unfold nee at hf ⊢; rw [if_pos (by omega)] at hf; rw [if_pos (by omega)]; omega)).2.1 (by omega) (by omega) [] [] (fun c τ e => by cases e)).1 hx).elim (fun τ q => q.elim (fun B q => q.2.2.2))
    have e1 : pr (f + 1) 3 ts D u = ((pr f (10 + 3) (pr f 4 ts D u).2.1 D u).1, (pr f (10 + 3) (pr f 4 ts D u).2.1 D u).2.1, (pr f 4 ts D u).2.2 ++ (pr f (10 + 3) (pr f 4 ts D u).2.1 D u).2.2) := by rw [pr, if_neg (by decide), if_pos (by decide)]; unfold prE; rw [if_pos hx]
    rw [e1]
    refine (c_M_test_l hB hla hky (h := h) (z := z) hD hu hd Hc f (by omega) _ _ _ h_2 z3 hP3 tk3 zp3 f3 h21c h22c (by rw [List.length_append]; omega) (by unfold nee at hf ⊢; rw [if_pos (by omega)] at hf; rw [if_neg (by omega)]; omega)).mono (fun h' r' q => ?_)
    obtain ⟨x, e, zz, b1, b2, b3, b4, b5⟩ := q
    refine ⟨x, e, zz, b1, b2, b3, fun hh => ?_, b5⟩
    obtain ⟨c1, c2, c3⟩ := b4 hh
    exact ⟨c1, by rw [List.append_assoc] at c2; exact c2, c3⟩
  · skip
    refine ex_iconst (pc := 8) (v := 0) dX7_test_8 (by decide) ?_
    refine ex_zret dX7_test_9 rfl (by first | exact Or.inl rfl | exact Or.inr rfl | exact bI_01 _) ?_
    have hx : (pr f 4 ts D u).1 = false := by
      cases e : (pr f 4 ts D u).1 with
      | false => rfl
      | true => exact absurd (ok3 e).1 (by rw [c_5]; decide)
    have e1 : pr (f + 1) 3 ts D u = (false, (pr f 4 ts D u).2.1, []) := by rw [pr, if_neg (by decide), if_pos (by decide)]; unfold prE; rw [if_neg (by rw [hx]; decide)]
    obtain ⟨-, A', hA', hT'⟩ := no3 hx
    rw [e1]
    exact qi_mk ⟨z3, zp3, tk3, f3, fun z => (by cases z), fun _ => ⟨rfl, A', hA', hT'⟩⟩
set_option maxHeartbeats 4000000 in
set_option maxRecDepth 100000 in
theorem c_M_sum_l {g : Gl} {s tf : Nat → Int32} {tb : Nat → Nat} {tl la ky : Nat} (hB : TpOk tf tb) (hla : la + 194 ≤ 3090) (hky : ky < 3) {h : AH} {z : Nat → Int32} {d ks D u F : Nat} (hD : D ≤ 8) (hu : u ≤ 8) (hd : frm 4 D u ≤ d) (Hc : ∀ f, f ≤ F → CT g s tf tb tl la ky mX7_term [none] f 5) : ∀ (f : Nat), f ≤ F + 1 → ∀ (ts : List Tkn) (l2 : Option Value) (A : List Stq) (h1 : AH) (z1 : Nat → Int32), PS g h1 z1 s tf tl la A → TkM tb tl ky z1 ts → zP z z1 → FrX c7576 g h h1 → z1 21 = nI D → z1 22 = nI u → A.length + ts.length ≤ 96 → nee (10 + 4) ts.length ≤ f → Ex g mX7_sum d 0 ks 10 [some (.ref (g.1 + 75)), some (.int (nI ky)), l2] [] h1 (qi (PQ g s tf tb tl la ky (pr f (10 + 4) ts D u) D u A h z)) := by
  have hd1 : 4 ≤ d := by unfold frm at hd; omega
  intro f
  induction f with
  | zero =>
    intro hF0 ts l2 A h1 z1 hP hk zp hF h21 h22 hlen hf
    unfold nee at hf
    rw [if_neg (by omega)] at hf
    omega
  | succ f ih =>
    intro hF0 ts l2 A h1 z1 hP hk zp hF h21 h22 hlen hf
    by_cases hyes : ∃ t r, ts = t :: r ∧ rk t = 4
    · obtain ⟨t, r, rfl, hrk⟩ := hyes
      obtain ⟨hk2, hrc, -, -⟩ := rk_k (t := t) (by omega)
      have hvs : t.2.2.2 = 43 ∨ t.2.2.2 = 45 := by
        rw [hrc] at hrk
        unfold rkc at hrk
        (repeat' split at hrk) <;> omega
      have hs20 : z1 20 = nI t.2.2.2 := by
        rcases (TkM_s hB hk).1 with ⟨k, -⟩ | ⟨k, -⟩ | ⟨k, -, q, -⟩ | ⟨k, -⟩
        · omega
        · omega
        · exact q
        · omega
      rcases hvs with hv | hv
      · have hl20 : z1 20 = nI 43 := by rw [← hv]; exact hs20
        refine ex_aload_n (pc := 10) dX7_sum_10 rfl ?_
        refine ex_bipush (pc := 11) (v := (nI 43)) dX7_sum_11 (by decide) ?_
        refine cx_VL1i (pc := 13) dX7_sum_13 lk_X7_317 hP.1.1.1 rfl (Nat.le_of_ble_eq_true rfl) (Nat.le_of_ble_eq_true rfl) (by omega) (c_M_isSign hP.1 hB hk (c := 43) (by decide)) (fun h_13 x_13 q_13 => ?_)
        obtain ⟨e_13, f_13⟩ := q_13
        rw [e_13, f_13]
        refine bx_if_ne_t (pc := 16) (tgt := 28) dX7_sum_16 (by decide) (by rw [bI_t (by unfold sgB; exact decide_eq_true ⟨hk2, hv⟩)]; decide) ?_
        refine ex_aload_n (pc := 28) dX7_sum_28 rfl ?_
        refine ex_get (pc := 29) dX7_sum_29 fl_X7_292 hP.1.1.1 rfl ?_
        rw [hl20]
        refine sx_istore_n (pc := 32) dX7_sum_32 rfl (by decide) ?_
        show Ex _ _ _ _ _ _ [_, _, _] _ _ _
        refine ex_aload_n (pc := 33) dX7_sum_33 rfl ?_
        refine cx_VL0v (pc := 34) dX7_sum_34 lk_X7_320 hP.1.1.1 rfl (Nat.le_of_ble_eq_true rfl) (Nat.le_of_ble_eq_true rfl) (by omega) (c_M_nx hP.1 hB hk (by omega) (by unfold frm at hd; omega)) (fun h_34 q_34 => ?_)
        obtain ⟨z2, t2, k2, tk2, f2⟩ := q_34
        have hP2 := hP.k k2 t2
        refine ex_aload_n (pc := 37) dX7_sum_37 rfl ?_
        refine ex_iload_n (pc := 38) dX7_sum_38 rfl ?_
        refine cx_VL1i (pc := 39) dX7_sum_39 lk_X7_333 t2.1.1 rfl (Nat.le_of_ble_eq_true rfl) (Nat.le_of_ble_eq_true rfl) (by omega) (Hc f (by omega) (d - 1) 0 r D u A h_34 z2 hP2 tk2 ((k2 21 (by omega)).trans h21) ((k2 22 (by omega)).trans h22) hD hu (by rw [List.length_cons] at hlen; omega) (by rw [List.length_cons] at hf; unfold nee at hf ⊢; rw [if_neg (by omega)] at hf; rw [if_pos (by omega)]; omega) (by unfold frm at hd ⊢; omega)) (fun h_39 x_39 q_39 => ?_)
        obtain ⟨z3, zp3, tk3, f3, ok3, no3⟩ := q_39
        refine ex_if_ne (pc := 42) (tgt := 47) dX7_sum_42 (by decide) (fun c_42 => ?_) (fun c_42 => ?_)
        · skip
          have hx : (pr f 5 r D u).1 = true := by
            cases e : (pr f 5 r D u).1 with
            | true => rfl
            | false => exact absurd (no3 e).1 c_42
          obtain ⟨-, hP3, h21c, h22c⟩ := ok3 hx
          have hlen3 := prLen f 5 r D u
          refine ex_aload_n (pc := 47) dX7_sum_47 rfl ?_
          refine ex_iconst (pc := 48) (v := (nI 2)) dX7_sum_48 (by decide) ?_
          refine ex_iload_n (pc := 49) dX7_sum_49 rfl ?_
          refine cx_VL2v (pc := 50) dX7_sum_50 lk_X7_323 hP3.1.1.1 rfl (Nat.le_of_ble_eq_true rfl) (Nat.le_of_ble_eq_true rfl) (by omega) (c_M_step hP3 (by rw [List.length_append]; rw [List.length_cons] at hlen; omega) 2 43) (fun h_50 q_50 => ?_)
          obtain ⟨t4, f4⟩ := q_50
          have hP4 := hP3.sg t4
          refine ex_goto (pc := 53) (tgt := 10) dX7_sum_53 (by decide) ?_
          have e1 : pr (f + 1) (10 + 4) (t :: r) D u = ((pr f (10 + 4) (pr f 5 r D u).2.1 D u).1, (pr f (10 + 4) (pr f 5 r D u).2.1 D u).2.1, (pr f 5 r D u).2.2 ++ (2, 43) :: (pr f (10 + 4) (pr f 5 r D u).2.1 D u).2.2) := by
            rw [prLoop (by omega)]
            have qq := prL_t (q := pr f) hrk (by decide) hx
            rw [hv] at qq
            exact qq
          rw [e1]
          refine (ih (by omega) _ _ (A ++ (pr f 5 r D u).2.2 ++ [(2, 43)]) _ _ hP4 (tk3.c (fun k h1 h2 => upd_ne (by omega))) (((zp.tr k2.p).tr zp3).tr (zP.up (by omega) (by omega))) (((hF.tr (c75_76 f2)).tr f3).tr f4) ((upd_ne (by decide)).trans h21c) ((upd_ne (by decide)).trans h22c) (by rw [List.length_append, List.length_append]; rw [List.length_cons] at hlen; simp only [List.length_cons, List.length_nil]; omega) (by rw [List.length_cons] at hf; unfold nee at hf ⊢; rw [if_neg (by omega)] at hf; rw [if_neg (by omega)]; omega)).mono (fun h' r' q => ?_)
          obtain ⟨x, e, zz, b1, b2, b3, b4, b5⟩ := q
          refine ⟨x, e, zz, b1, b2, b3, fun hh => ?_, b5⟩
          obtain ⟨c1, c2, c3⟩ := b4 hh
          exact ⟨c1, by rw [List.append_assoc, List.append_assoc, List.singleton_append] at c2; exact c2, c3⟩
        · skip
          refine ex_iconst (pc := 45) (v := 0) dX7_sum_45 (by decide) ?_
          refine ex_zret dX7_sum_46 rfl (by first | exact Or.inl rfl | exact Or.inr rfl | exact bI_01 _) ?_
          have hx : (pr f 5 r D u).1 = false := by
            cases e : (pr f 5 r D u).1 with
            | false => rfl
            | true => exact absurd (ok3 e).1 (by rw [c_42]; decide)
          have e1 : pr (f + 1) (10 + 4) (t :: r) D u = (false, (pr f 5 r D u).2.1, []) := by rw [prLoop (by omega)]; exact prL_f hrk hx
          obtain ⟨-, A', hA', hT'⟩ := no3 hx
          rw [e1]
          exact qi_mk ⟨z3, (zp.tr k2.p).tr zp3, tk3, (hF.tr (c75_76 f2)).tr f3, fun z => (by cases z), fun _ => ⟨rfl, A', hA', hT'⟩⟩
      · have hl20 : z1 20 = nI 45 := by rw [← hv]; exact hs20
        refine ex_aload_n (pc := 10) dX7_sum_10 rfl ?_
        refine ex_bipush (pc := 11) (v := (nI 43)) dX7_sum_11 (by decide) ?_
        refine cx_VL1i (pc := 13) dX7_sum_13 lk_X7_317 hP.1.1.1 rfl (Nat.le_of_ble_eq_true rfl) (Nat.le_of_ble_eq_true rfl) (by omega) (c_M_isSign hP.1 hB hk (c := 43) (by decide)) (fun h_13 x_13 q_13 => ?_)
        obtain ⟨e_13, f_13⟩ := q_13
        rw [e_13, f_13]
        refine bx_if_ne_f (pc := 16) (tgt := 28) dX7_sum_16 (by decide) (bI_f (by rw [sg_ne (by rw [hv]; decide)]; decide)) ?_
        refine ex_aload_n (pc := 19) dX7_sum_19 rfl ?_
        refine ex_bipush (pc := 20) (v := (nI 45)) dX7_sum_20 (by decide) ?_
        refine cx_VL1i (pc := 22) dX7_sum_22 lk_X7_317 hP.1.1.1 rfl (Nat.le_of_ble_eq_true rfl) (Nat.le_of_ble_eq_true rfl) (by omega) (c_M_isSign hP.1 hB hk (c := 45) (by decide)) (fun h_22 x_22 q_22 => ?_)
        obtain ⟨e_22, f_22⟩ := q_22
        rw [e_22, f_22]
        refine bx_if_eq_f (pc := 25) (tgt := 56) dX7_sum_25 (by decide) (by rw [bI_t (by unfold sgB; exact decide_eq_true ⟨hk2, hv⟩)]; decide) ?_
        refine ex_aload_n (pc := 28) dX7_sum_28 rfl ?_
        refine ex_get (pc := 29) dX7_sum_29 fl_X7_292 hP.1.1.1 rfl ?_
        rw [hl20]
        refine sx_istore_n (pc := 32) dX7_sum_32 rfl (by decide) ?_
        show Ex _ _ _ _ _ _ [_, _, _] _ _ _
        refine ex_aload_n (pc := 33) dX7_sum_33 rfl ?_
        refine cx_VL0v (pc := 34) dX7_sum_34 lk_X7_320 hP.1.1.1 rfl (Nat.le_of_ble_eq_true rfl) (Nat.le_of_ble_eq_true rfl) (by omega) (c_M_nx hP.1 hB hk (by omega) (by unfold frm at hd; omega)) (fun h_34 q_34 => ?_)
        obtain ⟨z2, t2, k2, tk2, f2⟩ := q_34
        have hP2 := hP.k k2 t2
        refine ex_aload_n (pc := 37) dX7_sum_37 rfl ?_
        refine ex_iload_n (pc := 38) dX7_sum_38 rfl ?_
        refine cx_VL1i (pc := 39) dX7_sum_39 lk_X7_333 t2.1.1 rfl (Nat.le_of_ble_eq_true rfl) (Nat.le_of_ble_eq_true rfl) (by omega) (Hc f (by omega) (d - 1) 0 r D u A h_34 z2 hP2 tk2 ((k2 21 (by omega)).trans h21) ((k2 22 (by omega)).trans h22) hD hu (by rw [List.length_cons] at hlen; omega) (by rw [List.length_cons] at hf; unfold nee at hf ⊢; rw [if_neg (by omega)] at hf; rw [if_pos (by omega)]; omega) (by unfold frm at hd ⊢; omega)) (fun h_39 x_39 q_39 => ?_)
        obtain ⟨z3, zp3, tk3, f3, ok3, no3⟩ := q_39
        refine ex_if_ne (pc := 42) (tgt := 47) dX7_sum_42 (by decide) (fun c_42 => ?_) (fun c_42 => ?_)
        · skip
          have hx : (pr f 5 r D u).1 = true := by
            cases e : (pr f 5 r D u).1 with
            | true => rfl
            | false => exact absurd (no3 e).1 c_42
          obtain ⟨-, hP3, h21c, h22c⟩ := ok3 hx
          have hlen3 := prLen f 5 r D u
          refine ex_aload_n (pc := 47) dX7_sum_47 rfl ?_
          refine ex_iconst (pc := 48) (v := (nI 2)) dX7_sum_48 (by decide) ?_
          refine ex_iload_n (pc := 49) dX7_sum_49 rfl ?_
          refine cx_VL2v (pc := 50) dX7_sum_50 lk_X7_323 hP3.1.1.1 rfl (Nat.le_of_ble_eq_true rfl) (Nat.le_of_ble_eq_true rfl) (by omega) (c_M_step hP3 (by rw [List.length_append]; rw [List.length_cons] at hlen; omega) 2 45) (fun h_50 q_50 => ?_)
          obtain ⟨t4, f4⟩ := q_50
          have hP4 := hP3.sg t4
          refine ex_goto (pc := 53) (tgt := 10) dX7_sum_53 (by decide) ?_
          have e1 : pr (f + 1) (10 + 4) (t :: r) D u = ((pr f (10 + 4) (pr f 5 r D u).2.1 D u).1, (pr f (10 + 4) (pr f 5 r D u).2.1 D u).2.1, (pr f 5 r D u).2.2 ++ (2, 45) :: (pr f (10 + 4) (pr f 5 r D u).2.1 D u).2.2) := by
            rw [prLoop (by omega)]
            have qq := prL_t (q := pr f) hrk (by decide) hx
            rw [hv] at qq
            exact qq
          rw [e1]
          refine (ih (by omega) _ _ (A ++ (pr f 5 r D u).2.2 ++ [(2, 45)]) _ _ hP4 (tk3.c (fun k h1 h2 => upd_ne (by omega))) (((zp.tr k2.p).tr zp3).tr (zP.up (by omega) (by omega))) (((hF.tr (c75_76 f2)).tr f3).tr f4) ((upd_ne (by decide)).trans h21c) ((upd_ne (by decide)).trans h22c) (by rw [List.length_append, List.length_append]; rw [List.length_cons] at hlen; simp only [List.length_cons, List.length_nil]; omega) (by rw [List.length_cons] at hf; unfold nee at hf ⊢; rw [if_neg (by omega)] at hf; rw [if_neg (by omega)]; omega)).mono (fun h' r' q => ?_)
          obtain ⟨x, e, zz, b1, b2, b3, b4, b5⟩ := q
          refine ⟨x, e, zz, b1, b2, b3, fun hh => ?_, b5⟩
          obtain ⟨c1, c2, c3⟩ := b4 hh
          exact ⟨c1, by rw [List.append_assoc, List.append_assoc, List.singleton_append] at c2; exact c2, c3⟩
        · skip
          refine ex_iconst (pc := 45) (v := 0) dX7_sum_45 (by decide) ?_
          refine ex_zret dX7_sum_46 rfl (by first | exact Or.inl rfl | exact Or.inr rfl | exact bI_01 _) ?_
          have hx : (pr f 5 r D u).1 = false := by
            cases e : (pr f 5 r D u).1 with
            | false => rfl
            | true => exact absurd (ok3 e).1 (by rw [c_42]; decide)
          have e1 : pr (f + 1) (10 + 4) (t :: r) D u = (false, (pr f 5 r D u).2.1, []) := by rw [prLoop (by omega)]; exact prL_f hrk hx
          obtain ⟨-, A', hA', hT'⟩ := no3 hx
          rw [e1]
          exact qi_mk ⟨z3, (zp.tr k2.p).tr zp3, tk3, (hF.tr (c75_76 f2)).tr f3, fun z => (by cases z), fun _ => ⟨rfl, A', hA', hT'⟩⟩
    · have hno : ∀ t r, ts = t :: r → ¬ rk t = 4 := fun t r e q => hyes ⟨t, r, e, q⟩
      refine ex_aload_n (pc := 10) dX7_sum_10 rfl ?_
      refine ex_bipush (pc := 11) (v := (nI 43)) dX7_sum_11 (by decide) ?_
      refine cx_VL1i (pc := 13) dX7_sum_13 lk_X7_317 hP.1.1.1 rfl (Nat.le_of_ble_eq_true rfl) (Nat.le_of_ble_eq_true rfl) (by omega) (c_M_isSign hP.1 hB hk (c := 43) (by decide)) (fun h_13 x_13 q_13 => ?_)
      obtain ⟨e_13, f_13⟩ := q_13
      rw [e_13, f_13]
      refine bx_if_ne_f (pc := 16) (tgt := 28) dX7_sum_16 (by decide) (bI_f (by rw [sg_no hno (show rkc 43 = 4 by decide)]; decide)) ?_
      refine ex_aload_n (pc := 19) dX7_sum_19 rfl ?_
      refine ex_bipush (pc := 20) (v := (nI 45)) dX7_sum_20 (by decide) ?_
      refine cx_VL1i (pc := 22) dX7_sum_22 lk_X7_317 hP.1.1.1 rfl (Nat.le_of_ble_eq_true rfl) (Nat.le_of_ble_eq_true rfl) (by omega) (c_M_isSign hP.1 hB hk (c := 45) (by decide)) (fun h_22 x_22 q_22 => ?_)
      obtain ⟨e_22, f_22⟩ := q_22
      rw [e_22, f_22]
      refine bx_if_eq_t (pc := 25) (tgt := 56) dX7_sum_25 (by decide) (bI_f (by rw [sg_no hno (show rkc 45 = 4 by decide)]; decide)) ?_
      refine ex_iconst (pc := 56) (v := 1) dX7_sum_56 (by decide) ?_
      refine ex_zret dX7_sum_57 rfl (by first | exact Or.inl rfl | exact Or.inr rfl | exact bI_01 _) ?_
      have e1 : pr (f + 1) (10 + 4) ts D u = (true, ts, []) := by rw [prLoop (by omega)]; exact prL_no hno
      rw [e1]
      exact qi_mk ⟨z1, zp, hk, hF, fun _ => ⟨rfl, by rw [List.append_nil]; exact hP, h21, h22⟩, fun z => by cases z⟩
set_option maxHeartbeats 4000000 in
set_option maxRecDepth 100000 in
theorem c_M_sum {g : Gl} {s tf : Nat → Int32} {tb : Nat → Nat} {tl la ky : Nat} (hB : TpOk tf tb) (hla : la + 194 ≤ 3090) (hky : ky < 3) {f : Nat} (Hc : ∀ f', f' ≤ f → CT g s tf tb tl la ky mX7_term [none] f' 5) : CT g s tf tb tl la ky mX7_sum [none] (f + 1) 4 := by
  intro d ks ts D u A h z hP hk h21 h22 hD hu hlen hf hd
  have hd1 : 4 ≤ d := by unfold frm at hd; omega
  refine ex_aload_n (pc := 0) dX7_sum_0 rfl ?_
  refine ex_iload_n (pc := 1) dX7_sum_1 rfl ?_
  refine cx_VL1i (pc := 2) dX7_sum_2 lk_X7_333 hP.1.1.1 rfl (Nat.le_of_ble_eq_true rfl) (Nat.le_of_ble_eq_true rfl) (by omega) (Hc f (Nat.le_refl _) (d - 1) 0 ts D u A h z hP hk h21 h22 hD hu hlen (by unfold nee at hf ⊢; rw [if_pos (by omega)] at hf; rw [if_pos (by omega)]; omega) (by unfold frm at hd ⊢; omega)) (fun h_2 x_2 q_2 => ?_)
  obtain ⟨z3, zp3, tk3, f3, ok3, no3⟩ := q_2
  refine ex_if_ne (pc := 5) (tgt := 10) dX7_sum_5 (by decide) (fun c_5 => ?_) (fun c_5 => ?_)
  · skip
    have hx : (pr f 5 ts D u).1 = true := by
      cases e : (pr f 5 ts D u).1 with
      | true => rfl
      | false => exact absurd (no3 e).1 c_5
    obtain ⟨-, hP3, h21c, h22c⟩ := ok3 hx
    have hlen3 := prLen f 5 ts D u
    have hcl : (pr f 5 ts D u).2.1.length < ts.length := (((prOk f 5 ts D u (by unfold nee at hf ⊢; rw [if_pos (by omega)] at hf; rw [if_pos (by omega)]; omega)).2.1 (by omega) (by omega) [] [] (fun c τ e => by cases e)).1 hx).elim (fun τ q => q.elim (fun B q => q.2.2.2))
    have e1 : pr (f + 1) 4 ts D u = ((pr f (10 + 4) (pr f 5 ts D u).2.1 D u).1, (pr f (10 + 4) (pr f 5 ts D u).2.1 D u).2.1, (pr f 5 ts D u).2.2 ++ (pr f (10 + 4) (pr f 5 ts D u).2.1 D u).2.2) := by rw [pr, if_neg (by decide), if_pos (by decide)]; unfold prE; rw [if_pos hx]
    rw [e1]
    refine (c_M_sum_l hB hla hky (h := h) (z := z) hD hu hd Hc f (by omega) _ _ _ h_2 z3 hP3 tk3 zp3 f3 h21c h22c (by rw [List.length_append]; omega) (by unfold nee at hf ⊢; rw [if_pos (by omega)] at hf; rw [if_neg (by omega)]; omega)).mono (fun h' r' q => ?_)
    obtain ⟨x, e, zz, b1, b2, b3, b4, b5⟩ := q
    refine ⟨x, e, zz, b1, b2, b3, fun hh => ?_, b5⟩
    obtain ⟨c1, c2, c3⟩ := b4 hh
    exact ⟨c1, by rw [List.append_assoc] at c2; exact c2, c3⟩
  · skip
    refine ex_iconst (pc := 8) (v := 0) dX7_sum_8 (by decide) ?_
    refine ex_zret dX7_sum_9 rfl (by first | exact Or.inl rfl | exact Or.inr rfl | exact bI_01 _) ?_
    have hx : (pr f 5 ts D u).1 = false := by
      cases e : (pr f 5 ts D u).1 with
      | false => rfl
      | true => exact absurd (ok3 e).1 (by rw [c_5]; decide)
    have e1 : pr (f + 1) 4 ts D u = (false, (pr f 5 ts D u).2.1, []) := by rw [pr, if_neg (by decide), if_pos (by decide)]; unfold prE; rw [if_neg (by rw [hx]; decide)]
    obtain ⟨-, A', hA', hT'⟩ := no3 hx
    rw [e1]
    exact qi_mk ⟨z3, zp3, tk3, f3, fun z => (by cases z), fun _ => ⟨rfl, A', hA', hT'⟩⟩
set_option maxHeartbeats 4000000 in
set_option maxRecDepth 100000 in
theorem c_M_term_l {g : Gl} {s tf : Nat → Int32} {tb : Nat → Nat} {tl la ky : Nat} (hB : TpOk tf tb) (hla : la + 194 ≤ 3090) (hky : ky < 3) {h : AH} {z : Nat → Int32} {d ks D u F : Nat} (hD : D ≤ 8) (hu : u ≤ 8) (hd : frm 5 D u ≤ d) (Hc : ∀ f, f ≤ F → CT g s tf tb tl la ky mX7_part0 [] f 6) : ∀ (f : Nat), f ≤ F + 1 → ∀ (ts : List Tkn) (l2 : Option Value) (A : List Stq) (h1 : AH) (z1 : Nat → Int32), PS g h1 z1 s tf tl la A → TkM tb tl ky z1 ts → zP z z1 → FrX c7576 g h h1 → z1 21 = nI D → z1 22 = nI u → A.length + ts.length ≤ 96 → nee (10 + 5) ts.length ≤ f → Ex g mX7_term d 0 ks 10 [some (.ref (g.1 + 75)), some (.int (nI ky)), l2] [] h1 (qi (PQ g s tf tb tl la ky (pr f (10 + 5) ts D u) D u A h z)) := by
  have hd1 : 4 ≤ d := by unfold frm at hd; omega
  intro f
  induction f with
  | zero =>
    intro hF0 ts l2 A h1 z1 hP hk zp hF h21 h22 hlen hf
    unfold nee at hf
    rw [if_neg (by omega)] at hf
    omega
  | succ f ih =>
    intro hF0 ts l2 A h1 z1 hP hk zp hF h21 h22 hlen hf
    by_cases hyes : ∃ t r, ts = t :: r ∧ rk t = 5
    · obtain ⟨t, r, rfl, hrk⟩ := hyes
      obtain ⟨hk2, hrc, -, -⟩ := rk_k (t := t) (by omega)
      have hvs : t.2.2.2 = 42 ∨ t.2.2.2 = 47 := by
        rw [hrc] at hrk
        unfold rkc at hrk
        (repeat' split at hrk) <;> omega
      have hs20 : z1 20 = nI t.2.2.2 := by
        rcases (TkM_s hB hk).1 with ⟨k, -⟩ | ⟨k, -⟩ | ⟨k, -, q, -⟩ | ⟨k, -⟩
        · omega
        · omega
        · exact q
        · omega
      rcases hvs with hv | hv
      · have hl20 : z1 20 = nI 42 := by rw [← hv]; exact hs20
        refine ex_aload_n (pc := 10) dX7_term_10 rfl ?_
        refine ex_bipush (pc := 11) (v := (nI 42)) dX7_term_11 (by decide) ?_
        refine cx_VL1i (pc := 13) dX7_term_13 lk_X7_317 hP.1.1.1 rfl (Nat.le_of_ble_eq_true rfl) (Nat.le_of_ble_eq_true rfl) (by omega) (c_M_isSign hP.1 hB hk (c := 42) (by decide)) (fun h_13 x_13 q_13 => ?_)
        obtain ⟨e_13, f_13⟩ := q_13
        rw [e_13, f_13]
        refine bx_if_ne_t (pc := 16) (tgt := 28) dX7_term_16 (by decide) (by rw [bI_t (by unfold sgB; exact decide_eq_true ⟨hk2, hv⟩)]; decide) ?_
        refine ex_aload_n (pc := 28) dX7_term_28 rfl ?_
        refine ex_get (pc := 29) dX7_term_29 fl_X7_292 hP.1.1.1 rfl ?_
        rw [hl20]
        refine sx_istore_n (pc := 32) dX7_term_32 rfl (by decide) ?_
        show Ex _ _ _ _ _ _ [_, _, _] _ _ _
        refine ex_aload_n (pc := 33) dX7_term_33 rfl ?_
        refine cx_VL0v (pc := 34) dX7_term_34 lk_X7_320 hP.1.1.1 rfl (Nat.le_of_ble_eq_true rfl) (Nat.le_of_ble_eq_true rfl) (by omega) (c_M_nx hP.1 hB hk (by omega) (by unfold frm at hd; omega)) (fun h_34 q_34 => ?_)
        obtain ⟨z2, t2, k2, tk2, f2⟩ := q_34
        have hP2 := hP.k k2 t2
        refine ex_aload_n (pc := 37) dX7_term_37 rfl ?_
        refine ex_iload_n (pc := 38) dX7_term_38 rfl ?_
        refine cx_VL1i (pc := 39) dX7_term_39 lk_X7_336 t2.1.1 rfl (Nat.le_of_ble_eq_true rfl) (Nat.le_of_ble_eq_true rfl) (by omega) (Hc f (by omega) (d - 1) 0 r D u A h_34 z2 hP2 tk2 ((k2 21 (by omega)).trans h21) ((k2 22 (by omega)).trans h22) hD hu (by rw [List.length_cons] at hlen; omega) (by rw [List.length_cons] at hf; unfold nee at hf ⊢; rw [if_neg (by omega)] at hf; rw [if_pos (by omega)]; omega) (by unfold frm at hd ⊢; omega)) (fun h_39 x_39 q_39 => ?_)
        obtain ⟨z3, zp3, tk3, f3, ok3, no3⟩ := q_39
        refine ex_if_ne (pc := 42) (tgt := 47) dX7_term_42 (by decide) (fun c_42 => ?_) (fun c_42 => ?_)
        · skip
          have hx : (pr f 6 r D u).1 = true := by
            cases e : (pr f 6 r D u).1 with
            | true => rfl
            | false => exact absurd (no3 e).1 c_42
          obtain ⟨-, hP3, h21c, h22c⟩ := ok3 hx
          have hlen3 := prLen f 6 r D u
          refine ex_aload_n (pc := 47) dX7_term_47 rfl ?_
          refine ex_iconst (pc := 48) (v := (nI 2)) dX7_term_48 (by decide) ?_
          refine ex_iload_n (pc := 49) dX7_term_49 rfl ?_
          refine cx_VL2v (pc := 50) dX7_term_50 lk_X7_323 hP3.1.1.1 rfl (Nat.le_of_ble_eq_true rfl) (Nat.le_of_ble_eq_true rfl) (by omega) (c_M_step hP3 (by rw [List.length_append]; rw [List.length_cons] at hlen; omega) 2 42) (fun h_50 q_50 => ?_)
          obtain ⟨t4, f4⟩ := q_50
          have hP4 := hP3.sg t4
          refine ex_goto (pc := 53) (tgt := 10) dX7_term_53 (by decide) ?_
          have e1 : pr (f + 1) (10 + 5) (t :: r) D u = ((pr f (10 + 5) (pr f 6 r D u).2.1 D u).1, (pr f (10 + 5) (pr f 6 r D u).2.1 D u).2.1, (pr f 6 r D u).2.2 ++ (2, 42) :: (pr f (10 + 5) (pr f 6 r D u).2.1 D u).2.2) := by
            rw [prLoop (by omega)]
            have qq := prL_t (q := pr f) hrk (by decide) hx
            rw [hv] at qq
            exact qq
          rw [e1]
          refine (ih (by omega) _ _ (A ++ (pr f 6 r D u).2.2 ++ [(2, 42)]) _ _ hP4 (tk3.c (fun k h1 h2 => upd_ne (by omega))) (((zp.tr k2.p).tr zp3).tr (zP.up (by omega) (by omega))) (((hF.tr (c75_76 f2)).tr f3).tr f4) ((upd_ne (by decide)).trans h21c) ((upd_ne (by decide)).trans h22c) (by rw [List.length_append, List.length_append]; rw [List.length_cons] at hlen; simp only [List.length_cons, List.length_nil]; omega) (by rw [List.length_cons] at hf; unfold nee at hf ⊢; rw [if_neg (by omega)] at hf; rw [if_neg (by omega)]; omega)).mono (fun h' r' q => ?_)
          obtain ⟨x, e, zz, b1, b2, b3, b4, b5⟩ := q
          refine ⟨x, e, zz, b1, b2, b3, fun hh => ?_, b5⟩
          obtain ⟨c1, c2, c3⟩ := b4 hh
          exact ⟨c1, by rw [List.append_assoc, List.append_assoc, List.singleton_append] at c2; exact c2, c3⟩
        · skip
          refine ex_iconst (pc := 45) (v := 0) dX7_term_45 (by decide) ?_
          refine ex_zret dX7_term_46 rfl (by first | exact Or.inl rfl | exact Or.inr rfl | exact bI_01 _) ?_
          have hx : (pr f 6 r D u).1 = false := by
            cases e : (pr f 6 r D u).1 with
            | false => rfl
            | true => exact absurd (ok3 e).1 (by rw [c_42]; decide)
          have e1 : pr (f + 1) (10 + 5) (t :: r) D u = (false, (pr f 6 r D u).2.1, []) := by rw [prLoop (by omega)]; exact prL_f hrk hx
          obtain ⟨-, A', hA', hT'⟩ := no3 hx
          rw [e1]
          exact qi_mk ⟨z3, (zp.tr k2.p).tr zp3, tk3, (hF.tr (c75_76 f2)).tr f3, fun z => (by cases z), fun _ => ⟨rfl, A', hA', hT'⟩⟩
      · have hl20 : z1 20 = nI 47 := by rw [← hv]; exact hs20
        refine ex_aload_n (pc := 10) dX7_term_10 rfl ?_
        refine ex_bipush (pc := 11) (v := (nI 42)) dX7_term_11 (by decide) ?_
        refine cx_VL1i (pc := 13) dX7_term_13 lk_X7_317 hP.1.1.1 rfl (Nat.le_of_ble_eq_true rfl) (Nat.le_of_ble_eq_true rfl) (by omega) (c_M_isSign hP.1 hB hk (c := 42) (by decide)) (fun h_13 x_13 q_13 => ?_)
        obtain ⟨e_13, f_13⟩ := q_13
        rw [e_13, f_13]
        refine bx_if_ne_f (pc := 16) (tgt := 28) dX7_term_16 (by decide) (bI_f (by rw [sg_ne (by rw [hv]; decide)]; decide)) ?_
        refine ex_aload_n (pc := 19) dX7_term_19 rfl ?_
        refine ex_bipush (pc := 20) (v := (nI 47)) dX7_term_20 (by decide) ?_
        refine cx_VL1i (pc := 22) dX7_term_22 lk_X7_317 hP.1.1.1 rfl (Nat.le_of_ble_eq_true rfl) (Nat.le_of_ble_eq_true rfl) (by omega) (c_M_isSign hP.1 hB hk (c := 47) (by decide)) (fun h_22 x_22 q_22 => ?_)
        obtain ⟨e_22, f_22⟩ := q_22
        rw [e_22, f_22]
        refine bx_if_eq_f (pc := 25) (tgt := 56) dX7_term_25 (by decide) (by rw [bI_t (by unfold sgB; exact decide_eq_true ⟨hk2, hv⟩)]; decide) ?_
        refine ex_aload_n (pc := 28) dX7_term_28 rfl ?_
        refine ex_get (pc := 29) dX7_term_29 fl_X7_292 hP.1.1.1 rfl ?_
        rw [hl20]
        refine sx_istore_n (pc := 32) dX7_term_32 rfl (by decide) ?_
        show Ex _ _ _ _ _ _ [_, _, _] _ _ _
        refine ex_aload_n (pc := 33) dX7_term_33 rfl ?_
        refine cx_VL0v (pc := 34) dX7_term_34 lk_X7_320 hP.1.1.1 rfl (Nat.le_of_ble_eq_true rfl) (Nat.le_of_ble_eq_true rfl) (by omega) (c_M_nx hP.1 hB hk (by omega) (by unfold frm at hd; omega)) (fun h_34 q_34 => ?_)
        obtain ⟨z2, t2, k2, tk2, f2⟩ := q_34
        have hP2 := hP.k k2 t2
        refine ex_aload_n (pc := 37) dX7_term_37 rfl ?_
        refine ex_iload_n (pc := 38) dX7_term_38 rfl ?_
        refine cx_VL1i (pc := 39) dX7_term_39 lk_X7_336 t2.1.1 rfl (Nat.le_of_ble_eq_true rfl) (Nat.le_of_ble_eq_true rfl) (by omega) (Hc f (by omega) (d - 1) 0 r D u A h_34 z2 hP2 tk2 ((k2 21 (by omega)).trans h21) ((k2 22 (by omega)).trans h22) hD hu (by rw [List.length_cons] at hlen; omega) (by rw [List.length_cons] at hf; unfold nee at hf ⊢; rw [if_neg (by omega)] at hf; rw [if_pos (by omega)]; omega) (by unfold frm at hd ⊢; omega)) (fun h_39 x_39 q_39 => ?_)
        obtain ⟨z3, zp3, tk3, f3, ok3, no3⟩ := q_39
        refine ex_if_ne (pc := 42) (tgt := 47) dX7_term_42 (by decide) (fun c_42 => ?_) (fun c_42 => ?_)
        · skip
          have hx : (pr f 6 r D u).1 = true := by
            cases e : (pr f 6 r D u).1 with
            | true => rfl
            | false => exact absurd (no3 e).1 c_42
          obtain ⟨-, hP3, h21c, h22c⟩ := ok3 hx
          have hlen3 := prLen f 6 r D u
          refine ex_aload_n (pc := 47) dX7_term_47 rfl ?_
          refine ex_iconst (pc := 48) (v := (nI 2)) dX7_term_48 (by decide) ?_
          refine ex_iload_n (pc := 49) dX7_term_49 rfl ?_
          refine cx_VL2v (pc := 50) dX7_term_50 lk_X7_323 hP3.1.1.1 rfl (Nat.le_of_ble_eq_true rfl) (Nat.le_of_ble_eq_true rfl) (by omega) (c_M_step hP3 (by rw [List.length_append]; rw [List.length_cons] at hlen; omega) 2 47) (fun h_50 q_50 => ?_)
          obtain ⟨t4, f4⟩ := q_50
          have hP4 := hP3.sg t4
          refine ex_goto (pc := 53) (tgt := 10) dX7_term_53 (by decide) ?_
          have e1 : pr (f + 1) (10 + 5) (t :: r) D u = ((pr f (10 + 5) (pr f 6 r D u).2.1 D u).1, (pr f (10 + 5) (pr f 6 r D u).2.1 D u).2.1, (pr f 6 r D u).2.2 ++ (2, 47) :: (pr f (10 + 5) (pr f 6 r D u).2.1 D u).2.2) := by
            rw [prLoop (by omega)]
            have qq := prL_t (q := pr f) hrk (by decide) hx
            rw [hv] at qq
            exact qq
          rw [e1]
          refine (ih (by omega) _ _ (A ++ (pr f 6 r D u).2.2 ++ [(2, 47)]) _ _ hP4 (tk3.c (fun k h1 h2 => upd_ne (by omega))) (((zp.tr k2.p).tr zp3).tr (zP.up (by omega) (by omega))) (((hF.tr (c75_76 f2)).tr f3).tr f4) ((upd_ne (by decide)).trans h21c) ((upd_ne (by decide)).trans h22c) (by rw [List.length_append, List.length_append]; rw [List.length_cons] at hlen; simp only [List.length_cons, List.length_nil]; omega) (by rw [List.length_cons] at hf; unfold nee at hf ⊢; rw [if_neg (by omega)] at hf; rw [if_neg (by omega)]; omega)).mono (fun h' r' q => ?_)
          obtain ⟨x, e, zz, b1, b2, b3, b4, b5⟩ := q
          refine ⟨x, e, zz, b1, b2, b3, fun hh => ?_, b5⟩
          obtain ⟨c1, c2, c3⟩ := b4 hh
          exact ⟨c1, by rw [List.append_assoc, List.append_assoc, List.singleton_append] at c2; exact c2, c3⟩
        · skip
          refine ex_iconst (pc := 45) (v := 0) dX7_term_45 (by decide) ?_
          refine ex_zret dX7_term_46 rfl (by first | exact Or.inl rfl | exact Or.inr rfl | exact bI_01 _) ?_
          have hx : (pr f 6 r D u).1 = false := by
            cases e : (pr f 6 r D u).1 with
            | false => rfl
            | true => exact absurd (ok3 e).1 (by rw [c_42]; decide)
          have e1 : pr (f + 1) (10 + 5) (t :: r) D u = (false, (pr f 6 r D u).2.1, []) := by rw [prLoop (by omega)]; exact prL_f hrk hx
          obtain ⟨-, A', hA', hT'⟩ := no3 hx
          rw [e1]
          exact qi_mk ⟨z3, (zp.tr k2.p).tr zp3, tk3, (hF.tr (c75_76 f2)).tr f3, fun z => (by cases z), fun _ => ⟨rfl, A', hA', hT'⟩⟩
    · have hno : ∀ t r, ts = t :: r → ¬ rk t = 5 := fun t r e q => hyes ⟨t, r, e, q⟩
      refine ex_aload_n (pc := 10) dX7_term_10 rfl ?_
      refine ex_bipush (pc := 11) (v := (nI 42)) dX7_term_11 (by decide) ?_
      refine cx_VL1i (pc := 13) dX7_term_13 lk_X7_317 hP.1.1.1 rfl (Nat.le_of_ble_eq_true rfl) (Nat.le_of_ble_eq_true rfl) (by omega) (c_M_isSign hP.1 hB hk (c := 42) (by decide)) (fun h_13 x_13 q_13 => ?_)
      obtain ⟨e_13, f_13⟩ := q_13
      rw [e_13, f_13]
      refine bx_if_ne_f (pc := 16) (tgt := 28) dX7_term_16 (by decide) (bI_f (by rw [sg_no hno (show rkc 42 = 5 by decide)]; decide)) ?_
      refine ex_aload_n (pc := 19) dX7_term_19 rfl ?_
      refine ex_bipush (pc := 20) (v := (nI 47)) dX7_term_20 (by decide) ?_
      refine cx_VL1i (pc := 22) dX7_term_22 lk_X7_317 hP.1.1.1 rfl (Nat.le_of_ble_eq_true rfl) (Nat.le_of_ble_eq_true rfl) (by omega) (c_M_isSign hP.1 hB hk (c := 47) (by decide)) (fun h_22 x_22 q_22 => ?_)
      obtain ⟨e_22, f_22⟩ := q_22
      rw [e_22, f_22]
      refine bx_if_eq_t (pc := 25) (tgt := 56) dX7_term_25 (by decide) (bI_f (by rw [sg_no hno (show rkc 47 = 5 by decide)]; decide)) ?_
      refine ex_iconst (pc := 56) (v := 1) dX7_term_56 (by decide) ?_
      refine ex_zret dX7_term_57 rfl (by first | exact Or.inl rfl | exact Or.inr rfl | exact bI_01 _) ?_
      have e1 : pr (f + 1) (10 + 5) ts D u = (true, ts, []) := by rw [prLoop (by omega)]; exact prL_no hno
      rw [e1]
      exact qi_mk ⟨z1, zp, hk, hF, fun _ => ⟨rfl, by rw [List.append_nil]; exact hP, h21, h22⟩, fun z => by cases z⟩
set_option maxHeartbeats 4000000 in
set_option maxRecDepth 100000 in
theorem c_M_term {g : Gl} {s tf : Nat → Int32} {tb : Nat → Nat} {tl la ky : Nat} (hB : TpOk tf tb) (hla : la + 194 ≤ 3090) (hky : ky < 3) {f : Nat} (Hc : ∀ f', f' ≤ f → CT g s tf tb tl la ky mX7_part0 [] f' 6) : CT g s tf tb tl la ky mX7_term [none] (f + 1) 5 := by
  intro d ks ts D u A h z hP hk h21 h22 hD hu hlen hf hd
  have hd1 : 4 ≤ d := by unfold frm at hd; omega
  refine ex_aload_n (pc := 0) dX7_term_0 rfl ?_
  refine ex_iload_n (pc := 1) dX7_term_1 rfl ?_
  refine cx_VL1i (pc := 2) dX7_term_2 lk_X7_336 hP.1.1.1 rfl (Nat.le_of_ble_eq_true rfl) (Nat.le_of_ble_eq_true rfl) (by omega) (Hc f (Nat.le_refl _) (d - 1) 0 ts D u A h z hP hk h21 h22 hD hu hlen (by unfold nee at hf ⊢; rw [if_pos (by omega)] at hf; rw [if_pos (by omega)]; omega) (by unfold frm at hd ⊢; omega)) (fun h_2 x_2 q_2 => ?_)
  obtain ⟨z3, zp3, tk3, f3, ok3, no3⟩ := q_2
  refine ex_if_ne (pc := 5) (tgt := 10) dX7_term_5 (by decide) (fun c_5 => ?_) (fun c_5 => ?_)
  · skip
    have hx : (pr f 6 ts D u).1 = true := by
      cases e : (pr f 6 ts D u).1 with
      | true => rfl
      | false => exact absurd (no3 e).1 c_5
    obtain ⟨-, hP3, h21c, h22c⟩ := ok3 hx
    have hlen3 := prLen f 6 ts D u
    have hcl : (pr f 6 ts D u).2.1.length < ts.length := (((prOk f 6 ts D u (by unfold nee at hf ⊢; rw [if_pos (by omega)] at hf; rw [if_pos (by omega)]; omega)).2.1 (by omega) (by omega) [] [] (fun c τ e => by cases e)).1 hx).elim (fun τ q => q.elim (fun B q => q.2.2.2))
    have e1 : pr (f + 1) 5 ts D u = ((pr f (10 + 5) (pr f 6 ts D u).2.1 D u).1, (pr f (10 + 5) (pr f 6 ts D u).2.1 D u).2.1, (pr f 6 ts D u).2.2 ++ (pr f (10 + 5) (pr f 6 ts D u).2.1 D u).2.2) := by rw [pr, if_neg (by decide), if_pos (by decide)]; unfold prE; rw [if_pos hx]
    rw [e1]
    refine (c_M_term_l hB hla hky (h := h) (z := z) hD hu hd Hc f (by omega) _ _ _ h_2 z3 hP3 tk3 zp3 f3 h21c h22c (by rw [List.length_append]; omega) (by unfold nee at hf ⊢; rw [if_pos (by omega)] at hf; rw [if_neg (by omega)]; omega)).mono (fun h' r' q => ?_)
    obtain ⟨x, e, zz, b1, b2, b3, b4, b5⟩ := q
    refine ⟨x, e, zz, b1, b2, b3, fun hh => ?_, b5⟩
    obtain ⟨c1, c2, c3⟩ := b4 hh
    exact ⟨c1, by rw [List.append_assoc] at c2; exact c2, c3⟩
  · skip
    refine ex_iconst (pc := 8) (v := 0) dX7_term_8 (by decide) ?_
    refine ex_zret dX7_term_9 rfl (by first | exact Or.inl rfl | exact Or.inr rfl | exact bI_01 _) ?_
    have hx : (pr f 6 ts D u).1 = false := by
      cases e : (pr f 6 ts D u).1 with
      | false => rfl
      | true => exact absurd (ok3 e).1 (by rw [c_5]; decide)
    have e1 : pr (f + 1) 5 ts D u = (false, (pr f 6 ts D u).2.1, []) := by rw [pr, if_neg (by decide), if_pos (by decide)]; unfold prE; rw [if_neg (by rw [hx]; decide)]
    obtain ⟨-, A', hA', hT'⟩ := no3 hx
    rw [e1]
    exact qi_mk ⟨z3, zp3, tk3, f3, fun z => (by cases z), fun _ => ⟨rfl, A', hA', hT'⟩⟩

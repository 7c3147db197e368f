/-! the class's reader: from word to word -/
theorem CfR.k {g : Gl} {h h' : AH} {r r' tf : Nat → Int32} {tl ky : Nat} {c : Cfq} (a : CfR g h r tf tl ky c) (k : rK r r') (hT : RdT g h' r' tf tl) (f : FrX c40 g h h') : CfR g h' r' tf tl ky c := by
  obtain ⟨⟨-, h6, ⟨fs, h42, hsf⟩, h3, ⟨fo, h43, hso⟩, h5⟩, h7, h8, h9, h10⟩ := a
  exact ⟨⟨hT, (k 6 (by decide) (by decide)).trans h6, ⟨fs, f.at (by unfold c40; decide) (nscr (by omega)) h42, hsf⟩, (k 3 (by decide) (by decide)).trans h3, ⟨fo, f.at (by unfold c40; decide) (nscr (by omega)) h43, hso⟩, (k 5 (by decide) (by decide)).trans h5⟩, (k 7 (by decide) (by decide)).trans h7, (k 8 (by decide) (by decide)).trans h8, (k 9 (by decide) (by decide)).trans h9, (k 10 (by decide) (by decide)).trans h10⟩
theorem c40W {g : Gl} {h h' : AH} (f : FrX c40 g h h') : FrX rdW g h h' := f.mono (fun k hk => Or.inl hk)
theorem tkI_j {tb : Nat → Nat} {tl ky b : Nat} {t : Tkn} (h : tkI tb tl ky b t.2.2) (hb : b < tl) : rk t = rkc (tb b) ∧ ((t.2.2.1 = 2 ∧ t.2.2.2 = 41) ↔ tb b = 41) ∧ (¬ rk t = 0 → t.2.2.2 = tb b) := by
  have lt : (97 ≤ tb b ∧ tb b ≤ 122) ∨ (48 ≤ tb b ∧ tb b ≤ 57) → rkc (tb b) = 0 ∧ ¬ tb b = 41 := by
    intro q
    refine ⟨?_, by omega⟩
    unfold rkc
    (repeat' split) <;> omega
  have no : (97 ≤ tb b ∧ tb b ≤ 122) ∨ (48 ≤ tb b ∧ tb b ≤ 57) → ¬ t.2.2.1 = 2 → rk t = rkc (tb b) ∧ ((t.2.2.1 = 2 ∧ t.2.2.2 = 41) ↔ tb b = 41) ∧ (¬ rk t = 0 → t.2.2.2 = tb b) := by
    intro q n2
    have e : rk t = 0 := if_neg n2
    exact ⟨e.trans (lt q).1.symm, ⟨fun y => absurd y.1 n2, fun y => absurd y (lt q).2⟩, fun y => absurd e y⟩
  rcases h with ⟨k, q⟩ | ⟨k, -, -, -, q⟩ | ⟨k, -, q⟩ | ⟨k, -, -, q⟩ | ⟨k, -, q⟩
  · unfold rk
    rw [q]
    exact ⟨if_pos rfl, ⟨fun y => y.2, fun y => ⟨rfl, y⟩⟩, fun _ => rfl⟩
  · exact no (Or.inl (srt_1.mp k).2) (by rw [q]; exact (by decide : ¬ (1 : Nat) = 2))
  · exact no (Or.inl (srt_1.mp k).2) (by rw [q]; decide)
  · exact no (Or.inr (srt_2.mp k).2) (by rw [q]; exact (by decide : ¬ (0 : Nat) = 2))
  · exact no (Or.inr (srt_2.mp k).2) (by rw [q]; decide)
theorem tkP_I {σ : List Nat} {A : List Stq} {br nt n : Nat} {t : Tkn} {c : Cfq} (hI : CfI (σ, true, A, br, nt) (n + 1)) (h : tkP σ A br nt t = some c) : CfI c n := by
  obtain ⟨hl, i33, i40, i8, i9⟩ := hI
  have hl : A.length + σ.length + (n + 1) ≤ 96 := hl
  have i33 : cn 33 σ ≤ nt := i33
  have i40 : br ≤ cn 40 σ := i40
  have i8 : br ≤ 8 := i8
  have i9 : nt ≤ 8 := i9
  unfold tkP at h
  by_cases e1 : t.2.2.1 < 2
  · rw [if_pos e1] at h
    cases h
    obtain ⟨a1, a2, a3, a4, a5⟩ := bng_f σ (A ++ [(t.2.2.1, t.2.2.2)]) nt
    rw [List.length_append, List.length_singleton] at a1
    exact ⟨by dsimp only; omega, a4 i33, by dsimp only; omega, i8, by dsimp only; omega⟩
  · rw [if_neg e1] at h
    by_cases e2 : t.2.2.1 = 2 ∧ t.2.2.2 = 40 ∧ br < 8
    · rw [if_pos e2] at h
      cases h
      refine ⟨by dsimp only; rw [List.length_cons]; omega, ?_, ?_, by dsimp only; omega, i9⟩
      · dsimp only; rw [cn, if_neg (by decide)]; omega
      · dsimp only; rw [cn, if_pos rfl]; omega
    · rw [if_neg e2] at h
      by_cases e3 : t.2.2.1 = 2 ∧ t.2.2.2 = 33 ∧ nt < 8
      · rw [if_pos e3] at h
        cases h
        refine ⟨by dsimp only; rw [List.length_cons]; omega, ?_, ?_, i8, by dsimp only; omega⟩
        · dsimp only; rw [cn, if_pos rfl]; omega
        · dsimp only; rw [cn, if_neg (by decide)]; omega
      · rw [if_neg e3] at h; cases h
theorem tkJ_I {σ : List Nat} {A : List Stq} {br nt n : Nat} {t : Tkn} {c : Cfq} (hI : CfI (σ, false, A, br, nt) (n + 1)) (h : tkJ σ A br nt t = some c) : CfI c n := by
  obtain ⟨hl, i33, i40, i8, i9⟩ := hI
  have hl : A.length + σ.length + (n + 1) ≤ 96 := hl
  have i33 : cn 33 σ ≤ nt := i33
  have i40 : br ≤ cn 40 σ := i40
  have i8 : br ≤ 8 := i8
  have i9 : nt ≤ 8 := i9
  have push : ∀ k, ¬ rk t = 0 → CfI (t.2.2.2 :: (clo k σ A).1, true, (clo k σ A).2, br, nt) n := by
    intro k r0
    have a1 := clo_len (k := k) σ A
    have a2 := cn_clo (x := 33) (k := k) rfl σ A
    have a3 := cn_clo (x := 40) (k := k) rfl σ A
    have hr := rk_k r0
    have h40 : ¬ t.2.2.2 = 40 := fun q => by rw [hr.2.1, q] at r0; exact r0 rfl
    refine ⟨by dsimp only; rw [List.length_cons]; omega, ?_, ?_, i8, i9⟩
    · dsimp only; rw [cn, if_neg hr.2.2.2]; omega
    · dsimp only; rw [cn, if_neg h40]; omega
  unfold tkJ at h
  by_cases e1 : t.2.2.1 = 2 ∧ t.2.2.2 = 41 ∧ 0 < br
  · rw [if_pos e1] at h
    cases h
    have a1 := clo_len (k := 0) σ A
    have a2 := cn_clo (x := 33) (k := 0) rfl σ A
    have a3 := cn_clo (x := 40) (k := 0) rfl σ A
    cases ec : (clo 0 σ A).1 with
    | nil => rw [ec] at a3; have : cn 40 σ = 0 := a3.symm; omega
    | cons c0 σ0 =>
      rw [ec, List.length_cons] at a1
      rw [ec, cn] at a2 a3
      have b1 : cn 33 σ0 ≤ nt := by omega
      have b2 : br - 1 ≤ cn 40 σ0 := by split at a3 <;> omega
      obtain ⟨f1, f2, f3, f4, f5⟩ := bng_f σ0 (clo 0 σ A).2 nt
      rw [show (c0 :: σ0).tail = σ0 from rfl]
      exact ⟨by dsimp only; omega, f4 b1, by dsimp only; omega, by dsimp only; omega, by dsimp only; omega⟩
  · rw [if_neg e1] at h
    by_cases e2 : rk t = 0
    · rw [if_pos e2] at h; cases h
    · rw [if_neg e2] at h
      by_cases e3 : rk t = 3
      · rw [if_pos e3] at h
        by_cases e4 : rkc ((clo 3 σ A).1.headD 0) = 3
        · rw [if_pos e4] at h; cases h
        · rw [if_neg e4] at h; cases h; exact push 3 e2
      · rw [if_neg e3] at h; cases h; exact push (rk t - 1) e2
def KeyOk (g : Gl) : Prop := ∀ (d ks : Nat) (h : AH) (r tf : Nat → Int32) (tb : Nat → Nat) (tl b : Nat), RdT g h r tf tl → TpOk tf tb → b < tl → r 11 = nI b → r 12 = nI (enT tb tl b) → 9 ≤ d → Ex g mX1_keyHere d 0 ks 0 [some (.ref (g.1 + 40))] [] h (qi (fun h' x => h' = h ∧ x = kyI (kyv tb tl b)))
/-- what the search for a fault leaves -/
def FfQ (g : Gl) (tf : Nat → Int32) (tl ky : Nat) (o : Option (List Stq) × List Tkn) (h h' : AH) (x : Int32) : Prop := FrX rdW g h h' ∧ ∃ r', RdA g h' r' tf tl ∧ (∀ S, o.1 = some S → x = -1 ∧ (∃ fs, h'[42]? = some (ia g 96 fs) ∧ stpR ky fs S) ∧ r' 3 = nI S.length ∧ r' 6 = nI ky ∧ r' 7 = nI (lvs S) ∧ S.length ≤ 96) ∧ (o.1 = none → x = nI (stA tl o.2))
set_option maxHeartbeats 4000000 in
set_option maxRecDepth 100000 in
theorem c_R_ff_e {g : Gl} {d ks : Nat} {h : AH} {tf : Nat → Int32} {tb : Nat → Nat} {tl ky : Nat} {c : Cfq} {h1 : AH} {r1 : Nat → Int32} (hC : CfR g h1 r1 tf tl ky c) (hI : CfI c 0) (hF : FrX rdW g h h1) (l1 l2 : Option Value) (hd : 3 ≤ d) : Ex g mX1_findFault d 0 ks 85 [some (.ref (g.1 + 40)), l1, l2] [] h1 (qi (FfQ g tf tl ky (rnM c []) h)) := by
  obtain ⟨σ, wt, A, br, nt⟩ := c
  obtain ⟨oS, o7, o8, o9, o10⟩ := id hC
  obtain ⟨ol, -⟩ := id hI
  have hl : A.length + σ.length + 0 ≤ 96 := ol
  have h7 : r1 7 = nI (lvs A) := o7
  have h8 : r1 8 = nI br := o8
  have h10 : r1 10 = bI (wt = true) := o10
  have hS : RdS g h1 r1 tf tl ky σ A := oS
  have htl := hS.1.2.2.2
  cases wt with
  | true =>
    refine ex_aload_n (pc := 85) dX1_findFault_85 rfl ?_
    refine ex_get (pc := 86) dX1_findFault_86 fl_X1_43 hS.1.1 rfl ?_
    refine bx_if_ne_t (pc := 89) (tgt := 99) dX1_findFault_89 (by decide) (by rw [h10]; decide) ?_
    refine ex_aload_n (pc := 99) dX1_findFault_99 rfl ?_
    refine ex_get (pc := 100) dX1_findFault_100 fl_X1_15 hS.1.1 rfl ?_
    refine ex_ret dX1_findFault_103 rfl ?_
    have e1 : rnM (σ, true, A, br, nt) [] = (none, []) := by rw [rnM, if_pos (Or.inl rfl)]
    exact qi_mk ⟨hF, r1, hS.a, fun S q => (by rw [e1] at q; cases q), fun _ => by rw [hS.1.2.2.1, e1]; rfl⟩
  | false =>
    by_cases hb : 0 < br
    · skip
      refine ex_aload_n (pc := 85) dX1_findFault_85 rfl ?_
      refine ex_get (pc := 86) dX1_findFault_86 fl_X1_43 hS.1.1 rfl ?_
      refine bx_if_ne_f (pc := 89) (tgt := 99) dX1_findFault_89 (by decide) (by rw [h10]; decide) ?_
      refine ex_aload_n (pc := 92) dX1_findFault_92 rfl ?_
      refine ex_get (pc := 93) dX1_findFault_93 fl_X1_37 hS.1.1 rfl ?_
      refine bx_if_le_f (pc := 96) (tgt := 104) dX1_findFault_96 (by decide) (by rw [h8]; exact nI_nle hb (by have : br ≤ 8 := hI.2.2.2.1; omega)) ?_
      refine ex_aload_n (pc := 99) dX1_findFault_99 rfl ?_
      refine ex_get (pc := 100) dX1_findFault_100 fl_X1_15 hS.1.1 rfl ?_
      refine ex_ret dX1_findFault_103 rfl ?_
      have e1 : rnM (σ, false, A, br, nt) [] = (none, []) := by rw [rnM, if_pos (Or.inr hb)]
      exact qi_mk ⟨hF, r1, hS.a, fun S q => (by rw [e1] at q; cases q), fun _ => by rw [hS.1.2.2.1, e1]; rfl⟩
    · skip
      refine ex_aload_n (pc := 85) dX1_findFault_85 rfl ?_
      refine ex_get (pc := 86) dX1_findFault_86 fl_X1_43 hS.1.1 rfl ?_
      refine bx_if_ne_f (pc := 89) (tgt := 99) dX1_findFault_89 (by decide) (by rw [h10]; decide) ?_
      refine ex_aload_n (pc := 92) dX1_findFault_92 rfl ?_
      refine ex_get (pc := 93) dX1_findFault_93 fl_X1_37 hS.1.1 rfl ?_
      refine bx_if_le_t (pc := 96) (tgt := 104) dX1_findFault_96 (by decide) (by rw [h8, show br = 0 by omega]; decide) ?_
      refine ex_aload_n (pc := 104) dX1_findFault_104 rfl ?_
      refine ex_iconst (pc := 105) (v := (nI 0)) dX1_findFault_105 (by decide) ?_
      refine cx_VL1v (pc := 106) dX1_findFault_106 lk_X1_81 hS.1.1 rfl (Nat.le_of_ble_eq_true rfl) (Nat.le_of_ble_eq_true rfl) (by omega) (c_R_closeAbove (k := 0) (by omega) (by omega) σ A h1 r1 hS (by omega)) (fun h_106 q_106 => ?_)
      obtain ⟨rc, hcS, ck, cf⟩ := q_106
      refine ex_iconst (pc := 109) (v := (-1)) dX1_findFault_109 (by decide) ?_
      refine ex_ret dX1_findFault_110 rfl ?_
      have e1 : rnM (σ, false, A, br, nt) [] = (some (clo 0 σ A).2, []) := by rw [rnM, if_neg (fun q => q.elim (fun y => by cases y) hb)]
      have hl0 := clo_len (k := 0) σ A
      refine qi_mk ⟨hF.tr cf, rc, hcS.a, fun S q => ?_, fun q => (by rw [e1] at q; cases q)⟩
      rw [e1] at q
      cases q
      exact ⟨rfl, hcS.2.2.1, hcS.2.2.2.1, hcS.2.1, by rw [ck 7 (by decide) (by decide), clo_lvs]; exact h7, by omega⟩
set_option maxHeartbeats 4000000 in
set_option maxRecDepth 100000 in
theorem c_R_ff_l {g : Gl} {d ks : Nat} {h : AH} {tf : Nat → Int32} {tb : Nat → Nat} {tl ky : Nat} (hB : TpOk tf tb) (hky : ky < 3) (hd : 7 ≤ d) : ∀ (ts : List Tkn) (k p : Nat) (c : Cfq) (h1 : AH) (r1 : Nat → Int32), CfR g h1 r1 tf tl ky c → CfI c ts.length → r1 12 = nI p → p ≤ tl → TkL tb tl ky p ts → k + ts.length ≤ 96 → FrX rdW g h h1 → ∀ l2 : Option Value, Ex g mX1_findFault d 0 ks 38 [some (.ref (g.1 + 40)), some (.int (nI k)), l2] [] h1 (qi (FfQ g tf tl ky (rnM c ts) h)) := by
  intro ts
  induction ts with
  | nil =>
    intro k p c h1 r1 hC hI h12 hp hts hk hF l2
    have htl := hC.1.1.2.2.2
    by_cases hk : k < 96
    · skip
      refine ex_iload_n (pc := 38) dX1_findFault_38 rfl ?_
      refine ex_bipush (pc := 39) (v := (nI 96)) dX1_findFault_39 (by decide) ?_
      refine bx_icmp_ge_f (pc := 41) (tgt := 85) dX1_findFault_41 (by decide) (nI_ge hk (by omega)) ?_
      refine ex_aload_n (pc := 44) dX1_findFault_44 rfl ?_
      refine cx_VL0i (pc := 45) dX1_findFault_45 lk_X1_67 hC.1.1.1 rfl (Nat.le_of_ble_eq_true rfl) (Nat.le_of_ble_eq_true rfl) (by omega) (c_R_goOn hC.1.1 hB hp h12 (by omega)) (fun h_45 x_45 q_45 => ?_)
      obtain ⟨r2, hT2, k2, h211, h212, f2, e2⟩ := q_45
      have hC2 := hC.k k2 hT2 f2
      refine bx_if_eq_t (pc := 48) (tgt := 85) dX1_findFault_48 (by decide) (by rw [e2]; exact bI_f (by have : bgT tb tl p = tl := hts; omega)) ?_
      exact c_R_ff_e (tb := tb) hC2 hI (hF.tr (c40W f2)) _ _ (by omega)
    · rename_i hk0
      rw [List.length_nil] at hk0
      refine ex_iload_n (pc := 38) dX1_findFault_38 rfl ?_
      refine ex_bipush (pc := 39) (v := (nI 96)) dX1_findFault_39 (by decide) ?_
      refine bx_icmp_ge_t (pc := 41) (tgt := 85) dX1_findFault_41 (by decide) (by rw [show k = 96 by omega]; decide) ?_
      exact c_R_ff_e (tb := tb) hC hI hF _ _ (by omega)
  | cons t r ih =>
    intro k p c h1 r1 hC hI h12 hp hts hk hF l2
    have htl := hC.1.1.2.2.2
    obtain ⟨hb, ht1, ht2, htk, hr⟩ := hts
    have hj := tkI_j htk hb
    obtain ⟨σ, wt, A, br, nt⟩ := c
    cases wt with
    | true =>
      refine ex_iload_n (pc := 38) dX1_findFault_38 rfl ?_
      refine ex_bipush (pc := 39) (v := (nI 96)) dX1_findFault_39 (by decide) ?_
      refine bx_icmp_ge_f (pc := 41) (tgt := 85) dX1_findFault_41 (by decide) (nI_ge (by rw [List.length_cons] at hk; omega) (by omega)) ?_
      refine ex_aload_n (pc := 44) dX1_findFault_44 rfl ?_
      refine cx_VL0i (pc := 45) dX1_findFault_45 lk_X1_67 hC.1.1.1 rfl (Nat.le_of_ble_eq_true rfl) (Nat.le_of_ble_eq_true rfl) (by omega) (c_R_goOn hC.1.1 hB hp h12 (by omega)) (fun h_45 x_45 q_45 => ?_)
      obtain ⟨r2, hT2, k2, h211, h212, f2, e2⟩ := q_45
      have hC2 := hC.k k2 hT2 f2
      refine bx_if_eq_f (pc := 48) (tgt := 85) dX1_findFault_48 (by decide) (by rw [e2, bI_t hb]; decide) ?_
      refine ex_aload_n (pc := 51) dX1_findFault_51 rfl ?_
      refine ex_get (pc := 52) dX1_findFault_52 fl_X1_43 hT2.1 rfl ?_
      refine bx_if_eq_f (pc := 55) (tgt := 65) dX1_findFault_55 (by decide) (by rw [hC2.2.2.2.2]; exact (by decide : ¬ bI (true = true) = 0)) ?_
      refine ex_aload_n (pc := 58) dX1_findFault_58 rfl ?_
      refine cx_VL0i (pc := 59) dX1_findFault_59 lk_X1_75 hT2.1 rfl (Nat.le_of_ble_eq_true rfl) (Nat.le_of_ble_eq_true rfl) (by omega) (c_R_takePiece (n := r.length) (t := t) hC2 hI hB hky hb h211 (h212 hb) htk (by omega)) (fun h_59 x_59 q_59 => ?_)
      obtain ⟨f3, r3, i1, i2, sm, nn⟩ := q_59
      refine ex_goto (pc := 62) (tgt := 69) dX1_findFault_62 (by decide) ?_
      refine sx_istore_n (pc := 69) dX1_findFault_69 rfl (by decide) ?_
      show Ex _ _ _ _ _ _ [_, _, _] _ _ _
      refine ex_iload_n (pc := 70) dX1_findFault_70 rfl ?_
      refine ex_if_ne (pc := 71) (tgt := 79) dX1_findFault_71 (by decide) (fun c_71 => ?_) (fun c_71 => ?_)
      · skip
        have hso : ∃ c', tkP σ A br nt t = some c' := by
          cases ho : tkP σ A br nt t with
          | none => exact absurd (nn ho).1 c_71
          | some c' => exact ⟨c', rfl⟩
        obtain ⟨c', ho⟩ := hso
        obtain ⟨-, hC3⟩ := sm c' ho
        refine sx_inc (pc := 79) dX1_findFault_79 rfl rfl (by decide) ?_
        show Ex _ _ _ _ _ _ [_, _, _] _ _ _
        refine ex_goto (pc := 82) (tgt := 38) dX1_findFault_82 (by decide) ?_
        rw [rn_s (show tkN (σ, true, A, br, nt) t = some c' from ho)]
        exact ih (k + 1) _ c' _ r3 hC3 (tkP_I hI ho) (i2.trans (h212 hb)) (en_rng hb).2 hr (by rw [List.length_cons] at hk; omega) ((hF.tr (c40W f2)).tr f3) _
      · skip
        have ho : tkP σ A br nt t = none := by
          cases ho : tkP σ A br nt t with
          | none => rfl
          | some c' => exact absurd (sm c' ho).1 (by rw [c_71]; decide)
        have hA3 := (nn ho).2
        refine ex_aload_n (pc := 74) dX1_findFault_74 rfl ?_
        refine ex_get (pc := 75) dX1_findFault_75 fl_X1_47 hA3.1.1 rfl ?_
        refine ex_ret dX1_findFault_78 rfl ?_
        have e1 : rnM (σ, true, A, br, nt) (t :: r) = (none, t :: r) := rn_n ho
        refine qi_mk ⟨(hF.tr (c40W f2)).tr f3, r3, hA3, fun S q => (by rw [e1] at q; cases q), fun _ => ?_⟩
        rw [e1, i1, h211, ← ht1]
        rfl
    | false =>
      refine ex_iload_n (pc := 38) dX1_findFault_38 rfl ?_
      refine ex_bipush (pc := 39) (v := (nI 96)) dX1_findFault_39 (by decide) ?_
      refine bx_icmp_ge_f (pc := 41) (tgt := 85) dX1_findFault_41 (by decide) (nI_ge (by rw [List.length_cons] at hk; omega) (by omega)) ?_
      refine ex_aload_n (pc := 44) dX1_findFault_44 rfl ?_
      refine cx_VL0i (pc := 45) dX1_findFault_45 lk_X1_67 hC.1.1.1 rfl (Nat.le_of_ble_eq_true rfl) (Nat.le_of_ble_eq_true rfl) (by omega) (c_R_goOn hC.1.1 hB hp h12 (by omega)) (fun h_45 x_45 q_45 => ?_)
      obtain ⟨r2, hT2, k2, h211, h212, f2, e2⟩ := q_45
      have hC2 := hC.k k2 hT2 f2
      refine bx_if_eq_f (pc := 48) (tgt := 85) dX1_findFault_48 (by decide) (by rw [e2, bI_t hb]; decide) ?_
      refine ex_aload_n (pc := 51) dX1_findFault_51 rfl ?_
      refine ex_get (pc := 52) dX1_findFault_52 fl_X1_43 hT2.1 rfl ?_
      refine bx_if_eq_t (pc := 55) (tgt := 65) dX1_findFault_55 (by decide) (by rw [hC2.2.2.2.2]; exact (by decide : bI (false = true) = 0)) ?_
      refine ex_aload_n (pc := 65) dX1_findFault_65 rfl ?_
      refine cx_VL0i (pc := 66) dX1_findFault_66 lk_X1_78 hT2.1 rfl (Nat.le_of_ble_eq_true rfl) (Nat.le_of_ble_eq_true rfl) (by omega) (c_R_takeJoint (n := r.length) (t := t) hB hC2 hI h211 hb hj.1 hj.2.1 hj.2.2 (by omega)) (fun h_66 x_66 q_66 => ?_)
      obtain ⟨f3, r3, i1, i2, sm, nn⟩ := q_66
      refine sx_istore_n (pc := 69) dX1_findFault_69 rfl (by decide) ?_
      show Ex _ _ _ _ _ _ [_, _, _] _ _ _
      refine ex_iload_n (pc := 70) dX1_findFault_70 rfl ?_
      refine ex_if_ne (pc := 71) (tgt := 79) dX1_findFault_71 (by decide) (fun c_71 => ?_) (fun c_71 => ?_)
      · skip
        have hso : ∃ c', tkJ σ A br nt t = some c' := by
          cases ho : tkJ σ A br nt t with
          | none => exact absurd (nn ho).1 c_71
          | some c' => exact ⟨c', rfl⟩
        obtain ⟨c', ho⟩ := hso
        obtain ⟨-, hC3⟩ := sm c' ho
        refine sx_inc (pc := 79) dX1_findFault_79 rfl rfl (by decide) ?_
        show Ex _ _ _ _ _ _ [_, _, _] _ _ _
        refine ex_goto (pc := 82) (tgt := 38) dX1_findFault_82 (by decide) ?_
        rw [rn_s (show tkN (σ, false, A, br, nt) t = some c' from ho)]
        exact ih (k + 1) _ c' _ r3 hC3 (tkJ_I hI ho) (i2.trans (h212 hb)) (en_rng hb).2 hr (by rw [List.length_cons] at hk; omega) ((hF.tr (c40W f2)).tr f3) _
      · skip
        have ho : tkJ σ A br nt t = none := by
          cases ho : tkJ σ A br nt t with
          | none => rfl
          | some c' => exact absurd (sm c' ho).1 (by rw [c_71]; decide)
        have hA3 := (nn ho).2
        refine ex_aload_n (pc := 74) dX1_findFault_74 rfl ?_
        refine ex_get (pc := 75) dX1_findFault_75 fl_X1_47 hA3.1.1 rfl ?_
        refine ex_ret dX1_findFault_78 rfl ?_
        have e1 : rnM (σ, false, A, br, nt) (t :: r) = (none, t :: r) := rn_n ho
        refine qi_mk ⟨(hF.tr (c40W f2)).tr f3, r3, hA3, fun S q => (by rw [e1] at q; cases q), fun _ => ?_⟩
        rw [e1, i1, h211, ← ht1]
        rfl

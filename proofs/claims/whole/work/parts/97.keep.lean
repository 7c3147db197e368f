/-! what every call keeps: numbers in their bounds -/
def GQ (s : Nat → Int32) (n : Nat) : Prop := (∃ th, th < 48 ∧ s 7 = nI th) ∧ TRk s n ∧ WOk s ∧ ∃ hr cc, hr ≤ 9999 ∧ cc ≤ hr ∧ s 2 = nI hr ∧ s 5 = nI cc
theorem GQ.ok {s : Nat → Int32} {n : Nat} (h : GQ s n) (p : POk s n) : HOk s n := ⟨p, h.1⟩
theorem GQ.up {s : Nat → Int32} {n k : Nat} {v : Int32} (h : GQ s n) (h2 : ¬ k = 2) (h5 : ¬ k = 5) (h7 : ¬ k = 7) (ht : ∀ i, i < n → ¬ 10 + 4 * i + 3 = k) (hw : k < 42 ∨ 90 ≤ k) : GQ (upd s k v) n := by
  obtain ⟨⟨th, a, b⟩, c, d, hr, cc, e1, e2, e3, e4⟩ := h
  refine ⟨⟨th, a, (upd_ne (fun q => h7 q.symm)).trans b⟩, fun i hi => ?_, fun c hc => ?_, hr, cc, e1, e2, (upd_ne (fun q => h2 q.symm)).trans e3, (upd_ne (fun q => h5 q.symm)).trans e4⟩
  · obtain ⟨t, t1, t2⟩ := c i hi
    exact ⟨t, t1, (upd_ne (ht i hi)).trans t2⟩
  · rw [upd_ne (show 42 + c ≠ k by omega)]; exact d c hc
theorem GQ.trd {s : Nat → Int32} {n p t : Nat} (h : GQ s n) (hp : p < 8) (hx : t ≤ 99) : GQ (upd s (10 + 4 * p + 3) (nI t)) n := by
  obtain ⟨⟨th, a, b⟩, c, d, hr, cc, e1, e2, e3, e4⟩ := h
  refine ⟨⟨th, a, (upd_ne (by omega)).trans b⟩, fun i hi => ?_, fun c hc => ?_, hr, cc, e1, e2, (upd_ne (by omega)).trans e3, (upd_ne (by omega)).trans e4⟩
  · by_cases e : i = p
    · subst e; exact ⟨t, hx, upd_eq⟩
    · obtain ⟨t, t1, t2⟩ := c i hi
      exact ⟨t, t1, (upd_ne (by omega)).trans t2⟩
  · rw [upd_ne (show 42 + c ≠ 10 + 4 * p + 3 by omega)]; exact d c hc
theorem GQ.cm {s : Nat → Int32} {n t : Nat} {kd ce si : Int32} (h : GQ s n) (hn : n < 8) (hx : t ≤ 99) : GQ (cmS s n kd ce si (nI t)) (n + 1) := by
  obtain ⟨⟨th, a, b⟩, c, d, hr, cc, e1, e2, e3, e4⟩ := h
  unfold cmS
  refine ⟨⟨th, a, ?_⟩, fun i hi => ?_, fun c hc => ?_, hr, cc, e1, e2, ?_, ?_⟩
  · rw [upd_ne (by omega), upd_ne (by omega), upd_ne (by omega), upd_ne (by omega), upd_ne (by omega)]; exact b
  · by_cases e : i = n
    · subst e; exact ⟨t, hx, upd_eq⟩
    · obtain ⟨t, t1, t2⟩ := c i (by omega)
      refine ⟨t, t1, ?_⟩
      rw [upd_ne (by omega), upd_ne (by omega), upd_ne (by omega), upd_ne (by omega), upd_ne (by omega)]; exact t2
  · rw [upd_ne (by omega), upd_ne (by omega), upd_ne (by omega), upd_ne (by omega), upd_ne (by omega)]; exact d c hc
  · rw [upd_ne (by omega), upd_ne (by omega), upd_ne (by omega), upd_ne (by omega), upd_ne (by omega)]; exact e3
  · rw [upd_ne (by omega), upd_ne (by omega), upd_ne (by omega), upd_ne (by omega), upd_ne (by omega)]; exact e4
theorem GQ.agE {s s' : Nat → Int32} {n nt : Nat} (h : GQ s n) (hn : n ≤ 8) (d : agE nt s s') : GQ s' n := by
  obtain ⟨⟨th, a, b⟩, c, w, hr, cc, e1, e2, e3, e4⟩ := h
  refine ⟨⟨th, a, (d 7 (by omega) (by omega)).trans b⟩, fun i hi => ?_, fun c hc => ?_, hr, cc, e1, e2, (d 2 (by omega) (by omega)).trans e3, (d 5 (by omega) (by omega)).trans e4⟩
  · obtain ⟨t, t1, t2⟩ := c i hi
    exact ⟨t, t1, (d _ (by omega) (by omega)).trans t2⟩
  · rw [d (42 + c) (by omega) (by omega)]; exact w c hc
theorem GQ.ag {s s' : Nat → Int32} {n : Nat} (h : GQ s n) (hn : n ≤ 8) (d : agr s s') : GQ s' n := h.agE (nt := 0) hn (fun k hk _ => d k (by omega))
theorem g_post {s : Nat → Int32} {n : Nat} (h : GQ s n) (kd ce si : Int32) : GQ (nPost s n kd ce si).1 (nPost s n kd ce si).2 := by
  unfold nPost
  by_cases c : okPost s n kd ce si = true
  · rw [if_pos c]
    simp only [okPost, Bool.and_eq_true, decide_eq_true_eq] at c
    exact h.cm c.2.2.2.2 (by omega)
  · rw [if_neg c]; exact h
theorem g_turns {s : Nat → Int32} {n : Nat} (h : GQ s n) (hn : n ≤ 8) (p kd : Int32) : GQ (nTurns s n p kd) n := by
  unfold nTurns
  by_cases c : (bw p n && bw kd 6) = true
  · rw [if_pos c]
    simp only [Bool.and_eq_true] at c
    obtain ⟨k, hk, rfl⟩ := bw_ex c.1
    unfold ixI
    rw [iK (by omega)]
    exact h.up (by omega) (by omega) (by omega) (by omega) (by omega)
  · rw [if_neg c]; exact h
theorem g_set {s : Nat → Int32} {n : Nat} (h : GQ s n) (hn : n ≤ 8) (p wh v : Int32) : GQ (nSet s n p wh v) n := by
  unfold nSet
  by_cases c : okSet n p wh v = true
  · rw [if_pos c]
    simp only [okSet, Bool.and_eq_true, Bool.or_eq_true, decide_eq_true_eq] at c
    obtain ⟨k, hk, rfl⟩ := bw_ex c.1
    unfold ixI
    rw [iK (by omega)]
    rcases c.2 with ⟨e, -⟩ | ⟨e, e2⟩
    · rw [e, iK (by omega)]
      exact h.up (by omega) (by omega) (by omega) (by omega) (by omega)
    · obtain ⟨t, ht, rfl⟩ := bw_ex e2
      rw [e, iK (by omega)]
      exact h.trd (by omega) (by omega)
  · rw [if_neg c]; exact h
theorem g_moves {s : Nat → Int32} {n : Nat} (h : GQ s n) (hn : n ≤ 8) (p ce : Int32) : GQ (nMoves s n p ce) n := by
  unfold nMoves
  by_cases c : ((bw p n && bw ce 48) && fre s n (ixI ce)) = true
  · rw [if_pos c]
    simp only [Bool.and_eq_true] at c
    obtain ⟨k, hk, rfl⟩ := bw_ex c.1.1
    unfold ixI
    rw [iK (by omega)]
    exact h.up (by omega) (by omega) (by omega) (by omega) (by omega)
  · rw [if_neg c]; exact h
theorem g_wall {s : Nat → Int32} {n : Nat} (h : GQ s n) (hn : n ≤ 8) (ce v : Int32) : GQ (nWall s n ce v) n := by
  unfold nWall
  by_cases c : ((bw ce 48 && bw v 2) && okWall s n ce v) = true
  · rw [if_pos c]
    simp only [Bool.and_eq_true] at c
    obtain ⟨k, hk, rfl⟩ := bw_ex c.1.1
    obtain ⟨x, hx, rfl⟩ := bw_ex c.1.2
    unfold ixI
    rw [iK (by omega)]
    obtain ⟨⟨th, a, b⟩, c, d, hr, cc, e1, e2, e3, e4⟩ := h
    refine ⟨⟨th, a, (upd_ne (by omega)).trans b⟩, fun i hi => ?_, fun c hc => ?_, hr, cc, e1, e2, (upd_ne (by omega)).trans e3, (upd_ne (by omega)).trans e4⟩
    · obtain ⟨t, t1, t2⟩ := c i hi
      exact ⟨t, t1, (upd_ne (by omega)).trans t2⟩
    · by_cases e : c = k
      · subst e
        rw [upd_eq]
        rcases (show x = 0 ∨ x = 1 by omega) with rfl | rfl
        · exact Or.inl rfl
        · exact Or.inr rfl
      · rw [upd_ne (show 42 + c ≠ 42 + k by omega)]; exact d c hc
  · rw [if_neg c]; exact h
theorem g_thief {s : Nat → Int32} {n : Nat} (h : GQ s n) (hn : n ≤ 8) (ce : Int32) : GQ (nThief s ce) n := by
  unfold nThief
  by_cases c : (bw ce 48 && !(wll s (ixI ce))) = true
  · rw [if_pos c]
    simp only [Bool.and_eq_true] at c
    obtain ⟨k, hk, rfl⟩ := bw_ex c.1
    obtain ⟨⟨th, a, b⟩, c, d, hr, cc, e1, e2, e3, e4⟩ := h
    refine ⟨⟨k, hk, upd_eq⟩, fun i hi => ?_, fun c hc => ?_, hr, cc, e1, e2, (upd_ne (by omega)).trans e3, (upd_ne (by omega)).trans e4⟩
    · obtain ⟨t, t1, t2⟩ := c i hi
      exact ⟨t, t1, (upd_ne (by omega)).trans t2⟩
    · rw [upd_ne (show 42 + c ≠ 7 by omega)]; exact d c hc
  · rw [if_neg c]; exact h
theorem g_rule {s : Nat → Int32} {n : Nat} (h : GQ s n) (hn : n ≤ 8) (wh v : Int32) : GQ (nRule s wh v) n := by
  unfold nRule
  by_cases c : (bw wh 2 && bw v 101) = true
  · rw [if_pos c]
    simp only [Bool.and_eq_true] at c
    obtain ⟨k, hk, rfl⟩ := bw_ex c.1
    unfold ixI
    rw [iK (by omega)]
    exact h.up (by omega) (by omega) (by omega) (by omega) (by omega)
  · rw [if_neg c]; exact h
theorem g_seed {s : Nat → Int32} {n : Nat} (h : GQ s n) (v : Int32) : GQ (upd s 9 v) n := h.up (by omega) (by omega) (by omega) (by omega) (by omega)
theorem g_dl : ∀ (m : Nat) (s : Nat → Int32) (n : Nat), GQ s n → GQ (dlS m s n).1 (n + (dlS m s n).2) := by
  intro m
  induction m with
  | zero => intro s n h; exact h
  | succ m ih =>
    intro s n h
    rw [dlS]
    by_cases hn : n < 8
    · rw [if_pos hn]
      have a1 : GQ (dr4 s) n := (((h.up (by omega) (by omega) (by omega) (by omega) (by omega)).up (by omega) (by omega) (by omega) (by omega) (by omega)).up (by omega) (by omega) (by omega) (by omega) (by omega)).up (by omega) (by omega) (by omega) (by omega) (by omega)
      cases hc : dpC s n with
      | none => exact a1
      | some j =>
        have hm : dN (drS (drS (drS s)) 9) % 60 < 60 := Nat.mod_lt _ (by decide)
        have q := a1.cm (kd := nI (dN (s 9) % 6)) (ce := nI j) (si := nI (dN (drS (drS s) 9) % 4)) (t := dN (drS (drS (drS s)) 9) % 60) hn (by omega)
        have b1 := ih _ _ q
        simp only []
        rw [show n + ((dlS m (dpT s n (some j)) (n + 1)).2 + 1) = n + 1 + (dlS m (dpT s n (some j)) (n + 1)).2 by omega]
        exact b1
    · rw [if_neg hn]; exact h
theorem g_deal {s : Nat → Int32} {n : Nat} (h : GQ s n) (N : Int32) : GQ (nDeal s n N).1 (nDeal s n N).2 := by
  unfold nDeal
  by_cases c : bq N 1 8 = true
  · rw [if_pos c]; exact g_dl _ _ _ h
  · rw [if_neg c]; exact h
theorem g_hrs {s : Nat → Int32} {n nt k : Nat} (h : GQ s n) (hp : POk s n) (hk : ∀ hr, hr ≤ 9999 → s 2 = nI hr → hr + k ≤ 9999) : GQ (hrsS s nt n k) n := by
  obtain ⟨a, b⟩ := hrs_ok (nt := nt) (h.ok hp) k
  obtain ⟨c1, c, d, hr, cc, e1, e2, e3, e4⟩ := h
  obtain ⟨c', q1, q2, q3⟩ := hrs_5 (nt := nt) (n := n) k cc e4
  refine ⟨a.2, hrs_trd c k, fun c hc => ?_, hr + k, c', hk hr e1 e3, by omega, hrs_2 k hr e3, q3⟩
  rw [b (42 + c) (by omega)]; exact d c hc
theorem g_hours {s : Nat → Int32} {n nt : Nat} (h : GQ s n) (hp : POk s n) (N : Int32) : GQ (nHours s n nt N) n := by
  unfold nHours
  by_cases c : bq N 1 100 = true
  · rw [if_pos c]
    refine g_hrs h hp (fun hr h9 e => ?_)
    obtain ⟨m, m1, m2, rfl⟩ := bq_ex c
    unfold hrN
    rw [e, nI_sub (by omega), mn_nI (by omega) (by omega), iK (by omega)]
    omega
  · rw [if_neg c]; exact h
theorem g_pr {s f : Nat → Int32} {n : Nat} (h : GQ s n) : ∀ k, k ≤ 8 → GQ (prS s f k) n := by
  intro k
  induction k with
  | zero => intro _; exact h
  | succ k ih =>
    intro hk
    have a := ih (by omega)
    rw [prS]
    split
    · exact a
    · obtain ⟨t, ht, e⟩ := hld_99 (f k)
      rw [e]; exact a.trd (by omega) ht
theorem g_pour {s : Nat → Int32} {n : Nat} (h : GQ s n) (hn : n ≤ 8) (S : Sht) (sh : Int32) : GQ (nPour s n S sh) n := by
  unfold nPour
  by_cases c : okPour S sh = true
  · rw [if_pos c]; exact g_pr h _ (by omega)
  · rw [if_neg c]; exact h
theorem SOk.set {S : Sht} {i : Nat} {so : Int32} {sz : Nat} {f : Nat → Int32} (h : SOk S) (h1 : so = -1 ∨ so = nI 0 ∨ so = nI 1) (h2 : sz ≤ 24) (h3 : ∀ j, j < 24 → nbOk (f j)) : SOk (shW S i so sz f) := by
  intro k hk
  unfold shW setF
  by_cases e : k = i
  · simp only [if_pos e]; exact ⟨h1, h2, h3⟩
  · simp only [if_neg e]; exact h k hk
theorem nb0 : nbOk (nI 0) := Or.inr ⟨0, by omega, by omega, by decide⟩
theorem g_sheet {S : Sht} (h : SOk S) (sh so n : Int32) : SOk (nSheet S sh so n) := by
  unfold nSheet
  by_cases c : okSh sh so n = true
  · rw [if_pos c]
    simp only [okSh, Bool.and_eq_true, Bool.or_eq_true, decide_eq_true_eq] at c
    obtain ⟨-, ⟨c1, c2⟩, c3⟩ := c
    have hso : so = -1 ∨ so = nI 0 ∨ so = nI 1 := by
      have e1 : (-1 : Int32).toInt = -1 := by decide
      have e2 : (nI 1).toInt = 1 := by decide
      have e3 : (nI 0).toInt = 0 := by decide
      rw [Int32.le_iff_toInt_le, e1] at c1
      rw [Int32.le_iff_toInt_le, e2] at c2
      rcases (show so.toInt = -1 ∨ so.toInt = 0 ∨ so.toInt = 1 by omega) with q | q | q
      · exact Or.inl (Int32.toInt_inj.mp (q.trans e1.symm))
      · exact Or.inr (Or.inl (Int32.toInt_inj.mp (q.trans e3.symm)))
      · exact Or.inr (Or.inr (Int32.toInt_inj.mp (q.trans e2.symm)))
    refine h.set hso ?_ (fun _ _ => nb0)
    by_cases e : so = -1
    · rw [if_pos e]; omega
    · rw [if_neg e]
      rcases c3 with q | q
      · exact absurd q e
      · obtain ⟨x, hx, rfl⟩ := bw_ex q
        unfold ixI
        rw [iK (by omega)]; omega
  · rw [if_neg c]; exact h
theorem g_mark {S : Sht} (h : SOk S) (sh p v : Int32) : SOk (nMark S sh p v) := by
  unfold nMark
  by_cases c : aMark S sh p v = 1
  · rw [if_pos c]
    unfold aMark at c
    by_cases c1 : bw sh 4 = true
    · rw [if_pos c1] at c
      obtain ⟨i, hi, rfl⟩ := bw_ex c1
      unfold ixI at c ⊢
      rw [iK (by omega)] at c ⊢
      obtain ⟨a1, a2, a3⟩ := h i hi
      refine h.set a1 a2 (fun j hj => ?_)
      by_cases e : j = p.toNatClampNeg
      · rw [e, upd_eq]
        unfold mkV
        by_cases so : S.1 i = nI 1
        · rw [if_pos so]
          rw [if_neg (by rw [so]; decide)] at c
          split at c
          · split at c
            · rename_i q
              rcases q with q | q
              · exact Or.inl q
              · unfold bz at q
                rw [decide_eq_true_eq] at q
                have e1 : (-99999 : Int32).toInt = -99999 := by decide
                have e2 : (99999 : Int32).toInt = 99999 := by decide
                rw [Int32.le_iff_toInt_le, Int32.le_iff_toInt_le, e1, e2] at q
                exact Or.inr ⟨v.toInt, q.1, q.2, (by unfold iI; exact (Int32.ofInt_toInt v).symm)⟩
            · exact absurd c (by decide)
          · exact absurd c (by decide)
        · rw [if_neg so]
          obtain ⟨z, z1, z2, z3⟩ := c16_rng v
          exact Or.inr ⟨z, by omega, by omega, z3⟩
      · rw [upd_ne e]; exact a3 j hj
    · rw [if_neg c1] at c; exact absurd c (by decide)
  · rw [if_neg c]; exact h
theorem g_copy {S : Sht} (h : SOk S) (fr pl to a m : Int32) : SOk (nCopy S fr pl to a m) := by
  unfold nCopy
  by_cases c : okCp S fr pl to a m = true
  · rw [if_pos c]
    simp only [okCp, Bool.and_eq_true] at c
    obtain ⟨⟨c1, c2⟩, -, -, c3, c4⟩ := c
    obtain ⟨i, hi, rfl⟩ := bw_ex c1
    obtain ⟨t, ht, rfl⟩ := bw_ex c2
    unfold ixI at c3 c4 ⊢
    rw [iK (by omega)] at c3 c4 ⊢
    rw [iK (by omega)]
    obtain ⟨a1, a2, a3⟩ := h t ht
    obtain ⟨b1, b2, b3⟩ := h i hi
    refine h.set a1 a2 (fun j hj => ?_)
    unfold va_cpy
    split
    · rename_i q
      refine b3 _ ?_
      unfold hpl at c3
      rw [decide_eq_true_eq] at c3
      obtain ⟨p1, p2, p3, p4⟩ := c3
      obtain ⟨x, hx, rfl⟩ := nI_of (x := pl) (Int32.not_lt.mpr p1)
      obtain ⟨y, hy, rfl⟩ := nI_of (x := m) (Int32.not_lt.mpr p2)
      rw [iK hy] at q
      rw [iK hx]
      have hx2 : x ≤ S.2.1 i := Nat.not_lt.mp (fun z => absurd (nI_lt z hx) (Int32.not_lt.mpr p3))
      rw [nI_sub hx2] at p4
      have hy2 : y ≤ S.2.1 i - x := Nat.not_lt.mp (fun z => absurd (nI_lt z hy) (Int32.not_lt.mpr p4))
      omega
    · exact a3 j hj
  · rw [if_neg c]; exact h
theorem g_lay {s : Nat → Int32} {n : Nat} {S : Sht} {L : Nat → Slt} (hP : POk s n) (hO : SOk S) (h : LOk L) (q t k : Int32) : LOk (nLay s n S L q t k) := by
  unfold nLay
  by_cases c : (bw q 5 && gdL n t k) = true
  · rw [if_pos c]
    by_cases c2 : t = nI 2 ∧ S.1 (ixI k) = -1
    · rw [if_pos c2]; exact h
    · rw [if_neg c2]
      intro j hj
      unfold setF
      by_cases e : j = ixI q
      · rw [if_pos e]
        simp only [Bool.and_eq_true] at c
        have g1 := c.2
        simp only [gdL, Bool.or_eq_true, Bool.and_eq_true, decide_eq_true_eq] at g1
        rcases g1 with g1 | g1 | ⟨g1, g2⟩ | ⟨g1, g2⟩
        · rw [g1]; unfold ixI newSl
          rw [iK (by omega)]
          simp
        · rw [g1]; unfold ixI newSl
          rw [iK (by omega)]
          simp
        · obtain ⟨x, hx, rfl⟩ := bw_ex g2 (by have := hP.2.1; omega)
          have hn := hP.2.1
          obtain ⟨⟨kd, k1, k2⟩, -, -⟩ := hP.2.2 x hx
          have z : newSl s S (ixI t) (nI x) = (1, s (10 + 4 * x + 0), wrt (s (10 + 4 * x + 0)) (s (10 + 4 * x + 3)), 0, fun _ => nI 0) := by
            rw [g1]; unfold newSl; rw [show ixI (nI 1) = 1 from iK (by omega), show ixI (nI x) = x from iK (by omega), if_pos rfl]
          rw [z]
          exact ⟨by show 1 < 4; omega, fun _ => ⟨kd, k1, k2⟩, by show 0 ≤ 24; omega⟩
        · obtain ⟨x, hx, rfl⟩ := bw_ex g2
          have z : newSl s S (ixI t) (nI x) = (2, nI 0, nI 0, S.2.1 x, S.2.2 x) := by
            rw [g1]; unfold newSl; rw [show ixI (nI 2) = 2 from iK (by omega), show ixI (nI x) = x from iK (by omega), if_neg (by omega), if_pos rfl]
          rw [z]
          exact ⟨by show 2 < 4; omega, fun q => absurd q (by show ¬ 2 = 1; omega), (hO x hx).2.1⟩
      · rw [if_neg e]; exact h j hj
  · rw [if_neg c]; exact h
def TpB (tf : Nat → Int32) : Prop := ∀ i, ∃ b, b < 256 ∧ tf i = nI b
theorem TpB.ok {tf : Nat → Int32} (h : TpB tf) : ∃ tb, TpOk tf tb := ⟨fun i => (h i).choose, fun i => ⟨(h i).choose_spec.2, (h i).choose_spec.1⟩⟩
theorem g_fdL {tf : Nat → Int32} {tl : Nat} {w : Nat → Int32} (h : TpB tf) : ∀ k, TpB (fdL tf tl w k) := by
  intro k
  induction k with
  | zero => exact h
  | succ k ih =>
    intro i
    rw [fdL]
    by_cases e : i = tl + k
    · rw [e, upd_eq]; exact byt_rng _ _
    · rw [upd_ne e]; exact ih i
theorem g_feed {tf : Nat → Int32} {tl : Nat} (h : TpB tf) (a b c : Int32) : TpB (nFeed tf tl a b c).1 := by
  unfold nFeed
  split
  · exact g_fdL h 12
  · exact h

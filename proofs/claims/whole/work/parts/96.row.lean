/-! the row behind a text -/
def agN (nt : Nat) (s s' : Nat → Int32) : Prop := ∀ k, k < 90 + 200 * nt → s' k = s k
def agE (nt : Nat) (s s' : Nat → Int32) : Prop := ∀ k, k < 90 + 200 * nt → ¬ k = 1 → s' k = s k
theorem agN.e {nt : Nat} {s s' : Nat → Int32} (a : agN nt s s') : agE nt s s' := fun k h _ => a k h
theorem txtOK.agE {nt : Nat} {s s' : Nat → Int32} (d : agE nt s s') {t ky L lv : Nat} (ht : t < nt) (h : txtOK s t ky L lv) : txtOK s' t ky L lv := by
  obtain ⟨h1, h2, h3, h4, h5, h6⟩ := h
  have hL := h6.2.2.1
  have e : ∀ k, k < 90 + 200 * nt → ¬ k = 1 → s' k = s k := d
  refine ⟨(e _ (by omega) (by omega)).trans h1, h2, (e _ (by omega) (by omega)).trans h3, (e _ (by omega) (by omega)).trans h4, fun k hk => ?_, ?_⟩
  · have q1 : whS s' t k = whS s t k := e _ (by omega) (by omega)
    have q2 : vS s' t k = vS s t k := e _ (by omega) (by omega)
    rw [q1, q2]; exact h5 k hk
  · refine wfO_tag (fun k hk => ?_) h6
    have q1 : whS s' t k = whS s t k := e _ (by omega) (by omega)
    have q2 : vS s' t k = vS s t k := e _ (by omega) (by omega)
    unfold opM
    rw [q1, q2]
theorem TO.agN {nt : Nat} {s s' : Nat → Int32} (d : agN nt s s') (h : TO s nt) : TO s' nt := by
  refine ⟨(d 1 (by omega)).trans h.1, h.2.1, fun t ht => ?_⟩
  obtain ⟨ky, L, lv, q⟩ := h.2.2 t ht
  exact ⟨ky, L, lv, q.agE d.e ht⟩
theorem POk.agE {nt : Nat} {s s' : Nat → Int32} (d : agE nt s s') {n : Nat} (h : POk s n) : POk s' n := by
  have hn := h.2.1
  refine ⟨(d 0 (by omega) (by omega)).trans h.1, h.2.1, fun i hi => ?_⟩
  rw [d _ (by omega) (by omega), d _ (by omega) (by omega), d _ (by omega) (by omega)]
  exact h.2.2 i hi
theorem wll_agE {nt : Nat} {s s' : Nat → Int32} (d : agE nt s s') : setL (wll s') 48 = setL (wll s) 48 := setL_congr (fun i hi => by unfold wll; rw [d _ (by omega) (by omega)])
theorem pS_agE {nt : Nat} {s s' : Nat → Int32} (d : agE nt s s') {i : Nat} (hi : i < 8) : pS s' i = pS s i := by
  unfold pS
  rw [d _ (by omega) (by omega), d _ (by omega) (by omega), d _ (by omega) (by omega), d _ (by omega) (by omega)]
theorem CR.agN {g : Gl} {h : AH} {b n nt : Nat} {s s' : Nat → Int32} (d : agN nt s s') (a : CR g h b s n nt) : CR g h b s' n nt := by
  obtain ⟨⟨r1, r2, r3, r4, r5, r6⟩, a2, a3, ⟨ft, fl, tx, a4, a5, a6, a7⟩, a8⟩ := a
  refine ⟨⟨?_, (d 0 (by omega)).trans r2, r3, r4, fun i hi => ?_, r6⟩, a2.agE d.e, a3.agN d, ⟨ft, fl, tx, a4, a5, fun t ht => ?_, fun key hk => ?_⟩, a8⟩
  · rw [wll_agE d.e, rmC_eq (s := s) (s' := s') (fun k hk => d k (by omega))]; exact r1
  · rw [pS_agE d.e (by omega)]; exact r5 i hi
  · obtain ⟨e, ky, L, lv, k1, f, fs, t1, t2, t3, t4⟩ := a6 t ht
    have hL := k1.2.2.2.2.2.2.2.1
    refine ⟨e, ky, L, lv, k1.agE d.e ht, f, fs, t1, t2, t3, fun k hk => ?_⟩
    have q1 : whS s' t k = whS s t k := d _ (by omega)
    have q2 : vS s' t k = vS s t k := d _ (by omega)
    rw [q1, q2]; exact t4 k hk
  · rw [a7 key hk]
    have : cntS s' nt (nI key) = cntS s nt (nI key) := lst_c (fun t ht => d _ (by omega))
    rw [this]
theorem wrA_ag {nt : Nat} {s : Nat → Int32} {A : List Stq} (h : nt ≤ 14) : agN nt s (wrA s (laT nt) A) := fun k hk => wrA_lo (by unfold laT; split <;> omega)
theorem wrA_w {s : Nat → Int32} {la i : Nat} {A : List Stq} (h : i < A.length) : wrA s la A (la + 2 * i) = nI (A.getD i (0, 0)).1 ∧ wrA s la A (la + 2 * i + 1) = nI (A.getD i (0, 0)).2 := by
  unfold wrA
  rw [if_pos (by omega), if_pos (by omega), if_pos (by omega), if_neg (by omega), show (la + 2 * i - la) / 2 = i by omega, show (la + 2 * i + 1 - la) / 2 = i by omega]
  exact ⟨rfl, rfl⟩
theorem nTx_e {s : Nat → Int32} {nt ky : Nat} {A : List Stq} : agE nt s (nTx s nt ky A) := by
  intro k hk h1
  unfold nTx
  rw [upd_ne h1, upd_ne (by omega), upd_ne (by omega), upd_ne (by omega), wrA_lo (by omega)]
theorem nTx_v {s : Nat → Int32} {nt ky : Nat} {A : List Stq} : nTx s nt ky A 1 = nI (nt + 1) ∧ keyS (nTx s nt ky A) nt = nI ky ∧ nTx s nt ky A (90 + 200 * nt + 1) = nI (lvs A) ∧ nTx s nt ky A (90 + 200 * nt + 2) = nI A.length ∧ ∀ i, i < A.length → whS (nTx s nt ky A) nt i = nI (A.getD i (0, 0)).1 ∧ vS (nTx s nt ky A) nt i = nI (A.getD i (0, 0)).2 := by
  refine ⟨upd_eq, ?_, ?_, ?_, fun i hi => ?_⟩
  · show nTx s nt ky A (90 + 200 * nt + 0) = _
    unfold nTx
    rw [upd_ne (by omega), upd_ne (by omega), upd_ne (by omega), upd_eq]
  · unfold nTx
    rw [upd_ne (by omega), upd_ne (by omega), upd_eq]
  · unfold nTx
    rw [upd_ne (by omega), upd_eq]
  · have q := wrA_w (s := s) (la := 90 + 200 * nt + 4) hi
    constructor
    · show nTx s nt ky A (90 + 200 * nt + 4 + 2 * i) = _
      unfold nTx
      rw [upd_ne (by omega), upd_ne (by omega), upd_ne (by omega), upd_ne (by omega)]
      exact q.1
    · show nTx s nt ky A (90 + 200 * nt + 4 + 2 * i + 1) = _
      unfold nTx
      rw [upd_ne (by omega), upd_ne (by omega), upd_ne (by omega), upd_ne (by omega)]
      exact q.2
theorem getD_mem {A : List Stq} {i : Nat} (h : i < A.length) : A.getD i (0, 0) ∈ A := by
  rw [List.getD_eq_getElem?_getD, List.getElem?_eq_getElem h]
  exact List.getElem_mem h
theorem nTx_ok {s : Nat → Int32} {nt ky : Nat} {A : List Stq} (hk : ky < 3) (hA : ∀ x, x ∈ A → okQ ky x) (hr : rnD 0 A = some 1) (hL : A.length ≤ 96) : txtOK (nTx s nt ky A) nt ky A.length (lvs A) := by
  obtain ⟨-, v1, v2, v3, v4⟩ := nTx_v (s := s) (nt := nt) (ky := ky) (A := A)
  have tag : ∀ j, j < A.length → (opM (whS (nTx s nt ky A) nt) (vS (nTx s nt ky A) nt) (fun _ => 0) (0 + j)).1 = tagQ (A.getD j (0, 0)) := by
    intro j hj
    rw [Nat.zero_add]
    obtain ⟨w1, w2⟩ := v4 j hj
    obtain ⟨-, b1, b2⟩ := okQ_stp hk (hA _ (getD_mem hj))
    unfold opM tagQ
    rw [w1, w2]
    by_cases e : (A.getD j (0, 0)).1 < 2
    · rw [if_pos e, if_neg (fun q => absurd ((nI_eq (by omega) (by omega)).mp q) (by omega))]
    · rw [if_neg e, if_pos (by rw [show (A.getD j (0, 0)).1 = 2 by omega])]
      by_cases e2 : (A.getD j (0, 0)).2 = 33
      · rw [if_pos e2, if_pos (by rw [e2])]
      · rw [if_neg e2, if_neg (fun q => e2 ((nI_eq (by omega) (by omega)).mp q))]
  obtain ⟨c1, c2⟩ := rnD_wf (lv := lvs A) A 0 0 1 tag rfl hr (by omega)
  refine ⟨v1, hk, v2, v3, fun i hi => ?_, ⟨fun j hj => ?_, ?_, hL, Nat.le_trans (lvs_le A) hL⟩⟩
  · rw [(v4 i hi).1, (v4 i hi).2]
    exact (okQ_stp hk (hA _ (getD_mem hi))).1
  · have := c1 j hj
    rw [Nat.zero_add] at this
    exact this
  · rw [Nat.zero_add] at c2
    rw [c2]
    exact Nat.le_refl _
theorem TkL_ok {tf : Nat → Int32} {tb : Nat → Nat} {tl ky : Nat} (hB : TpOk tf tb) : ∀ (ts : List Tkn) (p : Nat), TkL tb tl ky p ts → ∀ t, t ∈ ts → okK ky t := by
  intro ts
  induction ts with
  | nil => intro p _ t ht; cases ht
  | cons x r ih =>
    intro p h t ht
    obtain ⟨hb, e1, e2, hk, hr⟩ := h
    rcases List.mem_cons.mp ht with q | q
    · subst q
      rcases hk with ⟨k, q⟩ | ⟨k, g1, g2, g3, q⟩ | ⟨k, g1, q⟩ | ⟨k, g1, g2, q⟩ | ⟨k, g1, q⟩
      · exact ⟨fun y => (by rw [q] at y; exact absurd y (by decide : ¬ (2 : Nat) = 0)), fun y => (by rw [q] at y; exact absurd y (by decide : ¬ (2 : Nat) = 1))⟩
      · exact ⟨fun y => (by rw [q] at y; exact absurd y (by decide : ¬ (1 : Nat) = 0)), fun _ => by rw [q]; exact g3⟩
      · exact ⟨fun y => (by rw [q] at y; exact absurd y (by decide)), fun y => (by rw [q] at y; exact absurd y (by decide))⟩
      · refine ⟨fun _ => ?_, fun y => (by rw [q] at y; exact absurd y (by decide : ¬ (0 : Nat) = 1))⟩
        rw [q]
        have hrr := rnE_rng (tb := tb) (tl := tl) (s := srt tb tl (bgT tb tl p)) (tl - (bgT tb tl p + 1)) (bgT tb tl p + 1)
        have hd : ∀ i, i < enT tb tl (bgT tb tl p) - bgT tb tl p → tb (bgT tb tl p + i) ≤ 57 := by
          intro i hi
          have hs : srt tb tl (bgT tb tl p + i) = 2 := by
            by_cases i0 : i = 0
            · rw [i0]; exact k
            · rw [← k]
              refine hrr.2.2 (bgT tb tl p + i) (by omega) ?_
              have : enT tb tl (bgT tb tl p) = rnE tb tl (srt tb tl (bgT tb tl p)) (tl - (bgT tb tl p + 1)) (bgT tb tl p + 1) := if_neg (by omega)
              omega
          exact (srt_2.mp hs).2.2
        have hv := nvl_lt (tb := tb) (b := bgT tb tl p) _ hd
        have : 10 ^ (enT tb tl (bgT tb tl p) - bgT tb tl p) ≤ 10 ^ 4 := Nat.pow_le_pow_right (by decide) g2
        show nvl tb (bgT tb tl p) (enT tb tl (bgT tb tl p) - bgT tb tl p) ≤ 9999
        omega
      · exact ⟨fun y => (by rw [q] at y; exact absurd y (by decide)), fun y => (by rw [q] at y; exact absurd y (by decide))⟩
    · exact ih _ hr t q
/-- the new text is one as the calls want it -/
theorem nTx_new {s tf : Nat → Int32} {tb : Nat → Nat} {tl nt ky p : Nat} {ts : List Tkn} (hB : TpOk tf tb) (ho : okT ky ts) (hts : TkL tb tl ky p ts) (hl : ts.length ≤ 96) : txtOK (nTx s nt ky (prG ts).2.2) nt ky (prG ts).2.2.length (lvs (prG ts).2.2) := by
  obtain ⟨-, a⟩ := pr_good (ky := ky) (8 * ts.length + 8) 1 ts 0 0 (by omega) (TkL_ok hB ts p hts)
  obtain ⟨a1, a2, -⟩ := a ho.2.1
  have hlen := prLen (8 * ts.length + 8) 1 ts 0 0
  exact nTx_ok ho.1 a1 (a2 (by omega) 0) (by unfold prG; omega)
theorem nTx_TO {s : Nat → Int32} {nt ky L lv : Nat} {A : List Stq} (hT : TO s nt) (hnt : nt < 14) (hx : txtOK (nTx s nt ky A) nt ky L lv) : TO (nTx s nt ky A) (nt + 1) := by
  refine ⟨nTx_v.1, by omega, fun t ht => ?_⟩
  by_cases e : t = nt
  · rw [e]; exact ⟨ky, L, lv, hx⟩
  · obtain ⟨ky', L', lv', q⟩ := hT.2.2 t (by omega)
    exact ⟨ky', L', lv', q.agE nTx_e (by omega)⟩
theorem FrA.at {S : Nat → Prop} {g : Gl} {h h' : AH} {n k : Nat} {c : va_E} (a : FrA S g h h' n) (hS : ¬ S k) (hk : ¬ scr k) (e : h[k]? = some c) : h'[k]? = some c := (a.2.1 k (List.getElem?_eq_some_iff.mp e).1 hS hk).trans e
theorem scr_95 {j : Nat} : ¬ scr (95 + 3 * j) ∧ ¬ scr (96 + 3 * j) ∧ scr (97 + 3 * j) := by unfold scr; omega
theorem TxC.fa {S : Nat → Prop} {g : Gl} {h h' : AH} {s : Nat → Int32} {t j ky L lv n : Nat} (a : TxC g h s t j ky L lv) (f : FrA S g h h' n) (hS : ∀ k, S k → k < 95) : TxC g h' s t j ky L lv := by
  obtain ⟨f0, fs, t1, t2, t3, t4⟩ := a
  obtain ⟨fs', e'⟩ := f.2.2 _ scr_95.2.2 _ _ t3
  exact ⟨f0, fs', f.at (fun q => by have := hS _ q; omega) scr_95.2.1 t1, f.at (fun q => by have := hS _ q; omega) scr_95.1 t2, e', t4⟩
/-- the class's room behind a new text -/
theorem CRtx {g : Gl} {h h' : AH} {n nt ky j : Nat} {s : Nat → Int32} {A : List Stq} {ft : Nat → Option Nat} {fl f : Nat → Int32} (a : CR g h 1 s n nt) (e3 : h[3]? = some (ra g 3 14 ft)) (e4 : h[4]? = some (ia g 3 fl)) (hnt : nt < 14) (hk : ky < 3) (hx : txtOK (nTx s nt ky A) nt ky A.length (lvs A)) (fr : FrA txS g h h' 3) (q1 : h'[1]? = some (rmC g 1 (upd s 1 (nI (nt + 1))) (setL (wll s) 48))) (q3 : h'[3]? = some (ra g 3 14 (va_up ft nt (some (g.1 + (96 + 3 * j)))))) (q4 : h'[4]? = some (ia g 3 (upd fl ky (nI nt)))) (q5 : h'[95 + 3 * j]? = some (ia g A.length f)) (qf : ∀ k, k < A.length → f k = encQ ky (A.getD k (0, 0))) (q6 : h'[96 + 3 * j]? = some (ob 5 [.int (nI ky), .int (nI (lvs A)), .ref (g.1 + (95 + 3 * j)), .ref (g.1 + (97 + 3 * j))])) (q7 : h'[97 + 3 * j]? = some (ia g (lvs A) (fun _ => 0))) : CR g h' 1 (nTx s nt ky A) n (nt + 1) := by
  obtain ⟨⟨r1, r2, r3, ⟨fp, r4, r4'⟩, r5, r6⟩, a2, a3, ⟨ft0, fl0, tx, a4, a5, a6, a7⟩, a8⟩ := a
  have x1 : ft0 = ft := by rw [e3] at a4; cases a4; rfl
  have x2 : fl0 = fl := by rw [e4] at a5; cases a5; rfl
  subst x1
  subst x2
  have ce : agE nt s (nTx s nt ky A) := nTx_e
  have nv := nTx_v (s := s) (nt := nt) (ky := ky) (A := A)
  refine ⟨⟨?_, (ce 0 (by omega) (by omega)).trans r2, r3, ⟨fp, fr.at (by unfold txS; omega) (nscr (by omega)) r4, r4'⟩, fun i hi => ?_, fun i hi => ?_⟩, a2.agE ce, nTx_TO a3 hnt hx, ⟨_, _, va_up tx nt j, q3, q4, fun t ht => ?_, fun key hkey => ?_⟩, a8⟩
  · rw [wll_agE ce, rmC_eq (s := upd s 1 (nI (nt + 1))) (s' := nTx s nt ky A) (fun k hk => ?_)]
    · exact q1
    · by_cases e : k = 1
      · rw [e, upd_eq]; exact nv.1
      · rw [upd_ne e]; exact ce k (by omega) e
  · rw [pS_agE ce (by omega)]
    exact fr.at (by unfold txS; omega) (nscr (by omega)) (r5 i hi)
  · obtain ⟨kd, c, si, ti, e⟩ := r6 i hi
    exact ⟨kd, c, si, ti, fr.at (by unfold txS; omega) (nscr (by omega)) e⟩
  · unfold va_up
    by_cases e : t = nt
    · rw [if_pos e, if_pos e, e]
      refine ⟨rfl, ky, A.length, lvs A, hx, f, _, q6, q5, q7, fun k hk => ?_⟩
      rw [qf k hk, (nv.2.2.2.2 k hk).1, (nv.2.2.2.2 k hk).2]
      rfl
    · rw [if_neg e, if_neg e]
      obtain ⟨e0, ky', L', lv', k1, k2⟩ := a6 t (by omega)
      refine ⟨e0, ky', L', lv', k1.agE ce (by omega), ?_⟩
      obtain ⟨f0, fs, t1, t2, t3, t4⟩ := k2.fa fr (fun k hk => by unfold txS at hk; omega)
      have hL := k1.2.2.2.2.2.2.2.1
      refine ⟨f0, fs, t1, t2, t3, fun k hk => ?_⟩
      have p1 : whS (nTx s nt ky A) t k = whS s t k := ce _ (by omega) (by omega)
      have p2 : vS (nTx s nt ky A) t k = vS s t k := ce _ (by omega) (by omega)
      rw [p1, p2]; exact t4 k hk
  · show upd fl0 ky (nI nt) key = oN (-1) (lstF (keyS (nTx s nt ky A)) (nI key) (nt + 1))
    rw [lstF]
    by_cases e : key = ky
    · rw [e, upd_eq, if_pos nv.2.1]
      rfl
    · rw [upd_ne e, if_neg (fun q => e ((nI_eq (by omega) (by omega)).mp (nv.2.1.symm.trans q)).symm), a7 key hkey]
      have : lstF (keyS (nTx s nt ky A)) (nI key) nt = lstF (keyS s) (nI key) nt := lst_c (fun t ht => ce _ (by omega) (by omega))
      rw [this]
/-- what knows all that another knows -/
def Lk (h h' : AH) : Prop := ∀ (k : Nat) (c : va_E), h[k]? = some c → h'[k]? = some c
theorem FrA.tk {S : Nat → Prop} {g : Gl} {h h' : AH} {n : Nat} (a : FrA S g h h' n) : FrX S g h (h'.take h.length) ∧ Lk (h'.take h.length) h' := by
  have hl := a.1
  refine ⟨⟨by rw [List.length_take]; omega, fun k hS hs => ?_, fun k hs m f e => ?_⟩, fun k c e => ?_⟩
  · by_cases hk : k < h.length
    · rw [List.getElem?_take, if_pos hk]; exact a.2.1 k hk hS hs
    · rw [List.getElem?_take, if_neg hk, List.getElem?_eq_none (by omega)]
  · obtain ⟨f', e'⟩ := a.2.2 k hs m f e
    have hk := (List.getElem?_eq_some_iff.mp e).1
    exact ⟨f', by rw [List.getElem?_take, if_pos hk]; exact e'⟩
  · rw [List.getElem?_take] at e
    split at e
    · exact e
    · cases e

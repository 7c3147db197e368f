/-! a text is laid: the heap grows -/
section LKS
variable {g : Gl} {h h' : AH}
theorem ShB.lk {b : Nat} (a : ShB g h b) (l : Lk h h') : ShB g h' b := by
  obtain ⟨⟨s0, w0, a1⟩, ⟨fp, a2, a3⟩, a4, ⟨ft, a5⟩, fl, a6⟩ := a
  refine ⟨⟨s0, w0, l _ _ a1⟩, ⟨fp, l _ _ a2, a3⟩, fun i hi => ?_, ⟨ft, l _ _ a5⟩, fl, l _ _ a6⟩
  obtain ⟨kd, ce, si, ti, e⟩ := a4 i hi
  exact ⟨kd, ce, si, ti, l _ _ e⟩
theorem CR.lk {b n nt : Nat} {s : Nat → Int32} (a : CR g h b s n nt) (l : Lk h h') : CR g h' b s n nt := by
  obtain ⟨⟨r1, r2, r3, ⟨fp, r4, r5⟩, r6, r7⟩, a2, a3, ⟨ft, fl, tx, a4, a5, a6, a7⟩, a8⟩ := a
  refine ⟨⟨l _ _ r1, r2, r3, ⟨fp, l _ _ r4, r5⟩, fun i hi => l _ _ (r6 i hi), fun i hi => ?_⟩, a2, a3, ⟨ft, fl, tx, l _ _ a4, l _ _ a5, fun t ht => ?_, a7⟩, a8⟩
  · obtain ⟨kd, ce, si, ti, e⟩ := r7 i hi
    exact ⟨kd, ce, si, ti, l _ _ e⟩
  · obtain ⟨e, ky, L, lv, k1, f, fs, t1, t2, t3, t4⟩ := a6 t ht
    exact ⟨e, ky, L, lv, k1, f, fs, l _ _ t1, l _ _ t2, l _ _ t3, t4⟩
theorem ImC.lk {ik : Int32} {im : Nat → Int32} {ni nti : Nat} (a : ImC g h ik im ni nti) (l : Lk h h') : ImC g h' ik im ni nti := ⟨a.1.lk l, fun e => (a.2 e).lk l⟩
theorem ThB.lk (a : ThB g h) (l : Lk h h') : ThB g h' := by
  obtain ⟨a1, ⟨x1, x2, x3, x4, a2⟩, ⟨f, a3⟩, f2, a4⟩ := a
  exact ⟨a1.lk l, ⟨x1, x2, x3, x4, l _ _ a2⟩, ⟨f, l _ _ a3⟩, f2, l _ _ a4⟩
theorem ShtC.lk {S : Sht} (a : ShtC g h S) (l : Lk h h') : ShtC g h' S := by
  obtain ⟨⟨fs, a1, a2⟩, a3⟩ := a
  refine ⟨⟨fs, l _ _ a1, a2⟩, fun k hk => ?_⟩
  obtain ⟨b1, cf, b2, b3⟩ := a3 k hk
  exact ⟨l _ _ b1, cf, l _ _ b2, b3⟩
theorem SltC.lk {L : Nat → Slt} (a : SltC g h L) (l : Lk h h') : SltC g h' L := by
  obtain ⟨⟨fs, a1, a2⟩, a3⟩ := a
  refine ⟨⟨fs, l _ _ a1, a2⟩, fun k hk => ?_⟩
  obtain ⟨nu, kd, ce, si, ti, so, sz, cf, b1, b2, b3, b4, b5⟩ := a3 k hk
  exact ⟨nu, kd, ce, si, ti, so, sz, cf, l _ _ b1, l _ _ b2, l _ _ b3, l _ _ b4, b5⟩
theorem RI.lk {z s : Nat → Int32} {n nt : Nat} {ik : Int32} {im : Nat → Int32} {S : Sht} {L : Nat → Slt} {wf : Nat → Int32} {c : Nat} {tf : Nat → Int32} {tl : Nat} (a : RI g h z s n nt ik im S L wf c tf tl) (l : Lk h h') : RI g h' z s n nt ik im S L wf c tf tl := by
  obtain ⟨⟨⟨m1, m2⟩, m3, m4, ⟨nm, m5⟩, fp, m6⟩, a2, ⟨⟨f1, t1⟩, ⟨f2, t2⟩, ⟨f3, t3⟩, ⟨f4, t4⟩, f5, t5⟩, a4, ⟨⟨h1, k1, l1⟩, ⟨h2, k2, l2⟩, h3, k3, l3⟩, ⟨x1, x2, x3, x4, x5, ⟨y1, y2, y3, y4, y5⟩, y6⟩, a7, a8⟩ := a
  exact ⟨⟨⟨l _ _ m1, l _ _ m2⟩, m3, m4, ⟨nm, l _ _ m5⟩, fp, l _ _ m6⟩, a2, ⟨⟨f1, l _ _ t1⟩, ⟨f2, l _ _ t2⟩, ⟨f3, l _ _ t3⟩, ⟨f4, l _ _ t4⟩, f5, l _ _ t5⟩, l _ _ a4, ⟨⟨h1, l _ _ k1, l1⟩, ⟨h2, l _ _ k2, l2⟩, h3, l _ _ k3, l3⟩, ⟨x1, x2, x3, x4, x5, ⟨l _ _ y1, l _ _ y2, l _ _ y3, l _ _ y4, l _ _ y5⟩, y6⟩, l _ _ a7, l _ _ a8⟩
end LKS
theorem TkL_1 {tb : Nat → Nat} {tl ky : Nat} : ∀ (ts : List Tkn) (p : Nat), TkL tb tl ky p ts → ∀ t, t ∈ ts → t.1 < tl := by
  intro ts
  induction ts with
  | nil => intro p _ t ht; cases ht
  | cons x r ih =>
    intro p h t ht
    obtain ⟨hb, e1, e2, hk, hr⟩ := h
    rcases List.mem_cons.mp ht with q | q
    · rw [q, e1]; exact hb
    · exact ih _ hr t q
theorem pl_lt {tf : Nat → Int32} {tb : Nat → Nat} {tl k p : Nat} {ts : List Tkn} (hB : TpOk tf tb) (htl : tl ≤ 96) (hts : k < 3 → TkL tb tl k p ts ∧ ts.length ≤ 96) : plT tb tl k ts < 2147483648 := by
  unfold plT
  by_cases hk : k < 3
  · rw [if_pos hk]
    obtain ⟨h1, -⟩ := hts hk
    obtain ⟨a, -⟩ := pr_good (ky := k) (8 * ts.length + 8) 1 ts 0 0 (by omega) (TkL_ok hB ts p h1)
    cases e : (prG ts).2.1 with
    | nil => show tl < _; omega
    | cons t r =>
      have := TkL_1 ts p h1 t (a t (by show t ∈ (prG ts).2.1; rw [e]; exact List.mem_cons_self))
      show t.1 < _
      omega
  · rw [if_neg hk]
    have := (bg_rng (tb := tb) (tl := tl) (p := 0) (by omega)).2
    omega
theorem ts_ex (tb : Nat → Nat) (tl : Nat) (htl : tl ≤ 96) : ∃ ts : List Tkn, kyv tb tl (bgT tb tl 0) < 3 → TkL tb tl (kyv tb tl (bgT tb tl 0)) (enT tb tl (bgT tb tl 0)) ts ∧ ts.length ≤ 96 := by
  by_cases hk : kyv tb tl (bgT tb tl 0) < 3
  · have hb : bgT tb tl 0 < tl := by
      refine Nat.not_le.mp (fun q => ?_)
      have : srt tb tl (bgT tb tl 0) = 0 := srt_hi q
      unfold kyv at hk
      rw [if_neg (by omega)] at hk
      omega
    have he := (en_rng (tb := tb) hb).2
    obtain ⟨ts, h1, h2⟩ := TkL_ex tb tl (kyv tb tl (bgT tb tl 0)) (tl - enT tb tl (bgT tb tl 0)) (enT tb tl (bgT tb tl 0)) (by omega)
    exact ⟨ts, fun _ => ⟨h1, by omega⟩⟩
  · exact ⟨[], fun q => absurd q hk⟩
theorem MR.new {g : Gl} {h h' : AH} {z z' s s' : Nat → Int32} {n n' nt nt' : Nat} (a : MR g h z s n nt) (f : FrX c7576 g h h') (m : Ms g h' z' s') (p : POk s' n') (t : TO s' nt') : MR g h' z' s' n' nt' := by
  obtain ⟨-, -, -, ⟨nm, a5⟩, fp, a6⟩ := a
  exact ⟨m, p, t, f.2.2 90 (Or.inl rfl) _ _ a5, f.2.2 91 (Or.inr (Or.inl rfl)) _ _ a6⟩
set_option maxHeartbeats 4000000 in
set_option maxRecDepth 100000 in
theorem lc_text_n {g : Gl} {d kc ks i nt nti tl j : Nat} {ik : Int32} {tf : Nat → Int32} {h : AH} {Q : AH → Option Value → Prop} {tb : Nat → Nat} {ts : List Tkn} (hB : TpOk tf tb) (hts : kyv tb tl (bgT tb tl 0) < 3 → TkL tb tl (kyv tb tl (bgT tb tl 0)) (enT tb tl (bgT tb tl 0)) ts ∧ ts.length ≤ 96) (ho : ¬ okT (kyv tb tl (bgT tb tl 0)) ts) (hi : i + 6 ≤ sN g) (hN : sN g ≤ 3072) (hd : 80 ≤ d) (hI : IV g h nt ik nti tf tl j) (K : ∀ h', IV g h' nt ik nti tf 0 j → Ex g mL_law d kc ks 1647 [some (.ref (sB g)), some (.ref (g.1 + 0)), some (.ref (g.1 + 75)), some (.int (nI i))] [] h' Q) : Ex g mL_law d kc ks 1146 [some (.ref (sB g)), some (.ref (g.1 + 0)), some (.ref (g.1 + 75)), some (.int (nI i))] [] h Q := by
  have hI0 := hI
  obtain ⟨eJ, tB, t96, s, n, im, ni, S, L, wf, c, z, hC, hR, hP⟩ := hI
  have hCR := hC.2.1
  have p8 := hCR.2.1.2.1
  obtain ⟨rr, r1⟩ := hC.2.2.2.2.1
  have hpl := pl_lt hB t96 hts
  refine ex_aload_n (pc := 1146) dL_law_1146 rfl ?_
  refine cx_VL0i (pc := 1147) dL_law_1147 lk_L_137 hC.1 rfl (Nat.le_of_ble_eq_true rfl) (Nat.le_of_ble_eq_true rfl) (by omega) (c_W_text_n hC.1 hCR.1.1 hCR.2.2.1.1 (keyOk g) r1 hB hts (by omega) hpl ho) (fun h_1147 x_1147 q_1147 => ?_)
  obtain ⟨y2, u1, rr2, ra⟩ := q_1147
  have C1 : CI g h_1147 s n nt ik im ni nti S L wf c tf 0 := ⟨u1.at (by unfold rdW; omega) (nscr (by omega)) hC.1, hC.2.1.fr u1 (fun k q z => by unfold rgX at q; unfold rdW at z; omega), hC.2.2.1.fr u1 (fun k q z => by unfold rgX at q; unfold rdW at z; omega), hC.2.2.2.1.fr u1 (fun k q z => by unfold thX at q; unfold rdW at z; omega), ⟨rr2, ra⟩, hC.2.2.2.2.2.1.fr u1 (fun k q z => by unfold shX at q; unfold rdW at z; omega), hC.2.2.2.2.2.2.1.fr u1 (fun k q z => by unfold slX at q; unfold rdW at z; omega), u1.at (by unfold rdW; omega) (nscr (by omega)) hC.2.2.2.2.2.2.2⟩
  have R1 := hR.fr u1 (fun k z => by unfold rdW at z; omega)
  refine ex_aload_n (pc := 1150) dL_law_1150 rfl ?_
  refine cx_VL0i (pc := 1151) dL_law_1151 lk_L_140 R1.1.1.1 rfl (Nat.le_of_ble_eq_true rfl) (Nat.le_of_ble_eq_true rfl) (by omega) (c_M_text ⟨R1.1.1, R1.2.2.2.2.2.2.1, R1.2.1.2.1, t96⟩ hB R1.1.2.2.1.1 R1.1.2.2.1.2.1 hts (by omega)) (fun h_1151 x_1151 q_1151 => ?_)
  obtain ⟨z', s', ms, zt, z15, u2, b1, b2, b3, b4⟩ := q_1151
  obtain ⟨A, hA, rfl⟩ := b4 (Or.inl ho)
  have ag : agN nt s (wrA s (laT nt) A) := wrA_ag hCR.2.2.1.2.1
  have C2 := C1.fr u2 (fun k z => by unfold c7576 at z; omega)
  have C3 : CI g h_1151 (wrA s (laT nt) A) n nt ik im ni nti S L wf c tf 0 := ⟨C2.1, C2.2.1.agN ag, C2.2.2⟩
  have R2 : RI g h_1151 z' (wrA s (laT nt) A) n nt ik im S L wf c tf 0 := ⟨R1.1.new u2 ms C3.2.1.2.1 C3.2.1.2.2.1, ⟨(zt 3 (by omega)).trans R1.2.1.1, z15, (zt 30 (by omega)).trans R1.2.1.2.2⟩, R1.2.2.1.fx u2 (fun k q z => by unfold c7576 at z; omega), u2.at (by unfold c7576; omega) (nscr (by omega)) R1.2.2.2.1, R1.2.2.2.2.1.fr u2 (fun k q z => by unfold smX at q; unfold c7576 at z; omega), R1.2.2.2.2.2.1.fr u2 (fun k q z => by unfold lmX at q; unfold c7576 at z; omega), u2.at (by unfold c7576; omega) (nscr (by omega)) R1.2.2.2.2.2.2.1, u2.at (by unfold c7576; omega) (nsc2 (by omega)) R1.2.2.2.2.2.2.2⟩
  refine bx_icmp_eq_t (pc := 1154) (tgt := 1647) dL_law_1154 (by decide) (by rw [y2, b1 ho]) ?_
  exact K _ (IV.mk ((u2.1.trans u1.1).trans eJ) tB (Nat.zero_le _) C3 R2 ⟨hP.1.agE p8 ag.e, hP.2⟩)
set_option maxHeartbeats 4000000 in
set_option maxRecDepth 100000 in
theorem lc_text_f {g : Gl} {d kc ks i nt nti tl j : Nat} {ik : Int32} {tf : Nat → Int32} {h : AH} {Q : AH → Option Value → Prop} {tb : Nat → Nat} {ts : List Tkn} (hB : TpOk tf tb) (hts : kyv tb tl (bgT tb tl 0) < 3 → TkL tb tl (kyv tb tl (bgT tb tl 0)) (enT tb tl (bgT tb tl 0)) ts ∧ ts.length ≤ 96) (ho : okT (kyv tb tl (bgT tb tl 0)) ts) (hf : nt = 14) (hi : i + 6 ≤ sN g) (hN : sN g ≤ 3072) (hd : 80 ≤ d) (hI : IV g h nt ik nti tf tl j) (K : ∀ h', IV g h' nt ik nti tf 0 j → Ex g mL_law d kc ks 1647 [some (.ref (sB g)), some (.ref (g.1 + 0)), some (.ref (g.1 + 75)), some (.int (nI i))] [] h' Q) : Ex g mL_law d kc ks 1146 [some (.ref (sB g)), some (.ref (g.1 + 0)), some (.ref (g.1 + 75)), some (.int (nI i))] [] h Q := by
  have hI0 := hI
  obtain ⟨eJ, tB, t96, s, n, im, ni, S, L, wf, c, z, hC, hR, hP⟩ := hI
  have hCR := hC.2.1
  have p8 := hCR.2.1.2.1
  obtain ⟨rr, r1⟩ := hC.2.2.2.2.1
  have hpl := pl_lt hB t96 hts
  refine ex_aload_n (pc := 1146) dL_law_1146 rfl ?_
  refine cx_VL0i (pc := 1147) dL_law_1147 lk_L_137 hC.1 rfl (Nat.le_of_ble_eq_true rfl) (Nat.le_of_ble_eq_true rfl) (by omega) (c_W_text_f hC.1 hCR.1.1 hCR.2.2.1.1 (keyOk g) r1 hB hts (by omega) ho hf) (fun h_1147 x_1147 q_1147 => ?_)
  obtain ⟨y2, u1, rr2, ra⟩ := q_1147
  have C1 : CI g h_1147 s n nt ik im ni nti S L wf c tf 0 := ⟨u1.at (by unfold rdW; omega) (nscr (by omega)) hC.1, hC.2.1.fr u1 (fun k q z => by unfold rgX at q; unfold rdW at z; omega), hC.2.2.1.fr u1 (fun k q z => by unfold rgX at q; unfold rdW at z; omega), hC.2.2.2.1.fr u1 (fun k q z => by unfold thX at q; unfold rdW at z; omega), ⟨rr2, ra⟩, hC.2.2.2.2.2.1.fr u1 (fun k q z => by unfold shX at q; unfold rdW at z; omega), hC.2.2.2.2.2.2.1.fr u1 (fun k q z => by unfold slX at q; unfold rdW at z; omega), u1.at (by unfold rdW; omega) (nscr (by omega)) hC.2.2.2.2.2.2.2⟩
  have R1 := hR.fr u1 (fun k z => by unfold rdW at z; omega)
  refine ex_aload_n (pc := 1150) dL_law_1150 rfl ?_
  refine cx_VL0i (pc := 1151) dL_law_1151 lk_L_140 R1.1.1.1 rfl (Nat.le_of_ble_eq_true rfl) (Nat.le_of_ble_eq_true rfl) (by omega) (c_M_text ⟨R1.1.1, R1.2.2.2.2.2.2.1, R1.2.1.2.1, t96⟩ hB R1.1.2.2.1.1 R1.1.2.2.1.2.1 hts (by omega)) (fun h_1151 x_1151 q_1151 => ?_)
  obtain ⟨z', s', ms, zt, z15, u2, b1, b2, b3, b4⟩ := q_1151
  obtain ⟨A, hA, rfl⟩ := b4 (Or.inr hf)
  have ag : agN nt s (wrA s (laT nt) A) := wrA_ag hCR.2.2.1.2.1
  have C2 := C1.fr u2 (fun k z => by unfold c7576 at z; omega)
  have C3 : CI g h_1151 (wrA s (laT nt) A) n nt ik im ni nti S L wf c tf 0 := ⟨C2.1, C2.2.1.agN ag, C2.2.2⟩
  have R2 : RI g h_1151 z' (wrA s (laT nt) A) n nt ik im S L wf c tf 0 := ⟨R1.1.new u2 ms C3.2.1.2.1 C3.2.1.2.2.1, ⟨(zt 3 (by omega)).trans R1.2.1.1, z15, (zt 30 (by omega)).trans R1.2.1.2.2⟩, R1.2.2.1.fx u2 (fun k q z => by unfold c7576 at z; omega), u2.at (by unfold c7576; omega) (nscr (by omega)) R1.2.2.2.1, R1.2.2.2.2.1.fr u2 (fun k q z => by unfold smX at q; unfold c7576 at z; omega), R1.2.2.2.2.2.1.fr u2 (fun k q z => by unfold lmX at q; unfold c7576 at z; omega), u2.at (by unfold c7576; omega) (nscr (by omega)) R1.2.2.2.2.2.2.1, u2.at (by unfold c7576; omega) (nsc2 (by omega)) R1.2.2.2.2.2.2.2⟩
  refine bx_icmp_eq_t (pc := 1154) (tgt := 1647) dL_law_1154 (by decide) (by rw [y2, b2 ho hf]) ?_
  exact K _ (IV.mk ((u2.1.trans u1.1).trans eJ) tB (Nat.zero_le _) C3 R2 ⟨hP.1.agE p8 ag.e, hP.2⟩)
set_option maxHeartbeats 4000000 in
set_option maxRecDepth 100000 in
theorem lc_text_y {g : Gl} {d kc ks i nt nti tl j : Nat} {ik : Int32} {tf : Nat → Int32} {h : AH} {Q : AH → Option Value → Prop} {tb : Nat → Nat} {ts : List Tkn} (hB : TpOk tf tb) (hts : kyv tb tl (bgT tb tl 0) < 3 → TkL tb tl (kyv tb tl (bgT tb tl 0)) (enT tb tl (bgT tb tl 0)) ts ∧ ts.length ≤ 96)  (ho : okT (kyv tb tl (bgT tb tl 0)) ts) (hf : nt < 14) (hi : i + 6 ≤ sN g) (hN : sN g ≤ 3072) (hd : 80 ≤ d) (hI : IV g h nt ik nti tf tl j) (K : ∀ h', IV g h' (nt + 1) ik nti tf 0 (j + 1) → Ex g mL_law d kc ks 1647 [some (.ref (sB g)), some (.ref (g.1 + 0)), some (.ref (g.1 + 75)), some (.int (nI i))] [] h' Q) : Ex g mL_law d (1 + (1 + (1 + 0 + 0)) + 0 + kc) ((prG ts).2.2.length + (4 + (lvs (prG ts).2.2 + 0 + 0)) + 0 + ks) 1146 [some (.ref (sB g)), some (.ref (g.1 + 0)), some (.ref (g.1 + 75)), some (.int (nI i))] [] h Q := by
  have hI0 := hI
  obtain ⟨eJ, tB, t96, s, n, im, ni, S, L, wf, c, z, hC, hR, hP⟩ := hI
  have hCR := hC.2.1
  have p8 := hCR.2.1.2.1
  obtain ⟨rr, r1⟩ := hC.2.2.2.2.1
  obtain ⟨ft, fl, tx, e3, e4, -⟩ := hCR.2.2.2.1
  refine ex_aload_n (pc := 1146) dL_law_1146 rfl ?_
  refine cx_VL0iA (pc := 1147)   dL_law_1147 lk_L_137 hC.1 rfl (Nat.le_of_ble_eq_true rfl) (Nat.le_of_ble_eq_true rfl) (by omega) (c_W_text_y hC.1 hCR.1.1 hCR.2.2.1.1 (keyOk g) r1 hB hts (by omega) e3 e4 eJ ho hf) (fun h_1147 x_1147 q_1147 => ?_)
  intro hl_
  obtain ⟨y2, fa, ⟨rr2, ra⟩, q1, q3, q4, ⟨ff, q5, qf⟩, q6, q7⟩ := q_1147
  obtain ⟨u1, l1⟩ := fa.tk
  have hx : txtOK (nTx s nt (kyv tb tl (bgT tb tl 0)) (prG ts).2.2) nt (kyv tb tl (bgT tb tl 0)) (prG ts).2.2.length (lvs (prG ts).2.2) := nTx_new hB ho (hts ho.1).1 (hts ho.1).2
  have c1 : CR g h_1147 1 (nTx s nt (kyv tb tl (bgT tb tl 0)) (prG ts).2.2) n (nt + 1) := CRtx hCR e3 e4 hf ho.1 hx fa q1 q3 q4 q5 qf q6 q7
  have C1 : CI g h_1147 (nTx s nt (kyv tb tl (bgT tb tl 0)) (prG ts).2.2) n (nt + 1) ik im ni nti S L wf c tf 0 := ⟨l1 _ _ (u1.at (by unfold txS; omega) (nscr (by omega)) hC.1), c1, (hC.2.2.1.fr u1 (fun k q z => by unfold rgX at q; unfold txS at z; omega)).lk l1, (hC.2.2.2.1.fr u1 (fun k q z => by unfold thX at q; unfold txS at z; omega)).lk l1, ⟨rr2, ra⟩, (hC.2.2.2.2.2.1.fr u1 (fun k q z => by unfold shX at q; unfold txS at z; omega)).lk l1, (hC.2.2.2.2.2.2.1.fr u1 (fun k q z => by unfold slX at q; unfold txS at z; omega)).lk l1, l1 _ _ (u1.at (by unfold txS; omega) (nscr (by omega)) hC.2.2.2.2.2.2.2)⟩
  have R1 := (hR.fr u1 (fun k z => by unfold txS at z; omega)).lk l1
  refine ex_aload_n (pc := 1150) dL_law_1150 rfl ?_
  refine cx_VL0i (pc := 1151) dL_law_1151 lk_L_140 R1.1.1.1 rfl (Nat.le_of_ble_eq_true rfl) (Nat.le_of_ble_eq_true rfl) (by omega) (c_M_text ⟨R1.1.1, R1.2.2.2.2.2.2.1, R1.2.1.2.1, t96⟩ hB R1.1.2.2.1.1 R1.1.2.2.1.2.1 hts (by omega)) (fun h_1151 x_1151 q_1151 => ?_)
  obtain ⟨z', s', ms, zt, z15, u2, b1, b2, b3, b4⟩ := q_1151
  obtain ⟨y4, es⟩ := b3 ho hf
  rw [es] at ms
  have C2 := C1.fr u2 (fun k z => by unfold c7576 at z; omega)
  have R2 : RI g h_1151 z' (nTx s nt (kyv tb tl (bgT tb tl 0)) (prG ts).2.2) n (nt + 1) ik im S L wf c tf 0 := ⟨R1.1.new u2 ms C2.2.1.2.1 C2.2.1.2.2.1, ⟨(zt 3 (by omega)).trans R1.2.1.1, z15, (zt 30 (by omega)).trans R1.2.1.2.2⟩, R1.2.2.1.fx u2 (fun k q z => by unfold c7576 at z; omega), u2.at (by unfold c7576; omega) (nscr (by omega)) R1.2.2.2.1, R1.2.2.2.2.1.fr u2 (fun k q z => by unfold smX at q; unfold c7576 at z; omega), R1.2.2.2.2.2.1.fr u2 (fun k q z => by unfold lmX at q; unfold c7576 at z; omega), u2.at (by unfold c7576; omega) (nscr (by omega)) R1.2.2.2.2.2.2.1, u2.at (by unfold c7576; omega) (nsc2 (by omega)) R1.2.2.2.2.2.2.2⟩
  refine bx_icmp_eq_t (pc := 1154) (tgt := 1647) dL_law_1154 (by decide) (by rw [y2, y4]) ?_
  exact K _ (IV.mk (by rw [u2.1, fa.1, eJ]; omega) tB (Nat.zero_le _) C2 R2 ⟨hP.1.agE p8 nTx_e, hP.2⟩)

/-! the law's loop -/
def s00 : Nat → Int32 := upd (upd (upd (fun _ => 0) 9 (nI 1)) 3 (nI 20)) 4 (nI 30)
def h00 (g : Gl) : AH := inWatchN g 0 ++ inModelN g 75
theorem i8 {i : Nat} (h : i < 8) : i = 0 ∨ i = 1 ∨ i = 2 ∨ i = 3 ∨ i = 4 ∨ i = 5 ∨ i = 6 ∨ i = 7 := by omega
theorem wl00 : setL (wll s00) 48 = 0 := by decide +kernel
theorem s00_lo {k : Nat} (h : 10 ≤ k) : s00 k = 0 := by
  unfold s00
  rw [upd_ne (by omega), upd_ne (by omega), upd_ne (by omega)]
theorem po00 : POk s00 0 := ⟨rfl, by omega, fun i hi => absurd hi (by omega)⟩
theorem to00 : TO s00 0 := ⟨rfl, by omega, fun i hi => absurd hi (by omega)⟩
theorem gq00 : GQ s00 0 := ⟨⟨0, by omega, rfl⟩, fun i hi => absurd hi (by omega), fun c _ => Or.inl (s00_lo (by omega)), 0, 0, by omega, by omega, rfl, rfl⟩
theorem sh00 (g : Gl) : ShB g (h00 g) 13 := by
  refine ⟨⟨s00, 0, rfl⟩, ⟨_, rfl, fun i hi => ?_⟩, fun i hi => ?_, ⟨_, rfl⟩, _, rfl⟩
  · rcases i8 hi with rfl | rfl | rfl | rfl | rfl | rfl | rfl | rfl <;> rfl
  · rcases i8 hi with rfl | rfl | rfl | rfl | rfl | rfl | rfl | rfl <;> exact ⟨0, 0, 0, 0, rfl⟩
theorem th00 (g : Gl) : ThB g (h00 g) := by
  refine ⟨⟨⟨s00, 0, rfl⟩, ⟨_, rfl, fun i hi => ?_⟩, fun i hi => ?_, ⟨_, rfl⟩, _, rfl⟩, ⟨0, 0, 0, 0, rfl⟩, ⟨_, rfl⟩, _, rfl⟩
  · rcases i8 hi with rfl | rfl | rfl | rfl | rfl | rfl | rfl | rfl <;> rfl
  · rcases i8 hi with rfl | rfl | rfl | rfl | rfl | rfl | rfl | rfl <;> exact ⟨0, 0, 0, 0, rfl⟩
theorem cr00 (g : Gl) : CR g (h00 g) 1 s00 0 0 := by
  refine ⟨⟨?_, rfl, by omega, ⟨_, rfl, fun i hi => ?_⟩, fun i hi => absurd hi (by omega), fun i hi => ?_⟩, po00, to00, ⟨_, _, fun _ => 0, rfl, rfl, fun t ht => absurd ht (by omega), fun key hk => ?_⟩, by omega⟩
  · rw [wl00]; rfl
  · rcases i8 hi with rfl | rfl | rfl | rfl | rfl | rfl | rfl | rfl <;> rfl
  · rcases i8 hi with rfl | rfl | rfl | rfl | rfl | rfl | rfl | rfl <;> exact ⟨0, 0, 0, 0, rfl⟩
  · rcases (show key = 0 ∨ key = 1 ∨ key = 2 by omega) with rfl | rfl | rfl <;> rfl
def S00 : Sht := (fun _ => -1, fun _ => 0, fun _ _ => 0)
def L00 : Nat → Slt := fun _ => (0, 0, 0, 0, fun _ => 0)
theorem sc00 (g : Gl) : ShtC g (h00 g) S00 := by
  refine ⟨⟨_, rfl, fun k hk => ?_⟩, fun k hk => ?_⟩
  · rcases (show k = 0 ∨ k = 1 ∨ k = 2 ∨ k = 3 by omega) with rfl | rfl | rfl | rfl <;> rfl
  · rcases (show k = 0 ∨ k = 1 ∨ k = 2 ∨ k = 3 by omega) with rfl | rfl | rfl | rfl <;> exact ⟨rfl, _, rfl, fun _ _ => rfl⟩
theorem lc00 (g : Gl) : SltC g (h00 g) L00 := by
  refine ⟨⟨_, rfl, fun k hk => ?_⟩, fun k hk => ?_⟩
  · rcases (show k = 0 ∨ k = 1 ∨ k = 2 ∨ k = 3 ∨ k = 4 by omega) with rfl | rfl | rfl | rfl | rfl <;> rfl
  · rcases (show k = 0 ∨ k = 1 ∨ k = 2 ∨ k = 3 ∨ k = 4 by omega) with rfl | rfl | rfl | rfl | rfl <;> exact ⟨0, 0, 0, 0, 0, -1, 0, _, rfl, rfl, rfl, rfl, fun q => absurd q (show ¬ (0 : Nat) = 1 by omega), fun q => absurd q (show ¬ (0 : Nat) = 2 by omega), fun q => absurd q (show ¬ (0 : Nat) = 3 by omega)⟩
theorem sm00 (g : Gl) : ShtM g (h00 g) S00 := by
  refine ⟨⟨_, rfl, fun k hk => ?_⟩, ⟨_, rfl, fun k hk => rfl⟩, _, rfl, fun k hk j hj => rfl⟩
  rcases (show k = 0 ∨ k = 1 ∨ k = 2 ∨ k = 3 by omega) with rfl | rfl | rfl | rfl <;> rfl
theorem lm00 (g : Gl) : SltM g (h00 g) L00 := ⟨_, _, _, _, _, ⟨rfl, rfl, rfl, rfl, rfl⟩, fun k hk => ⟨rfl, fun _ => rfl, fun _ => rfl, fun _ => ⟨rfl, fun _ _ => rfl⟩⟩⟩
theorem iv00 (g : Gl) : IV g (h00 g) 0 0 0 (fun _ => 0) 0 0 := by
  refine IV.mk (s := s00) (n := 0) (im := fun _ => 0) (ni := 0) (S := S00) (L := L00) (wf := fun _ => 0) (c := 0) (z := fun _ => 0) rfl (fun _ => ⟨0, by omega, rfl⟩) (by omega) ?_ ?_ ?_
  · exact ⟨rfl, cr00 g, ⟨sh00 g, fun q => absurd q (by decide)⟩, th00 g, ⟨fun k => if k = 6 then -1 else if k = 10 then nI 1 else 0, ⟨rfl, rfl, rfl, by omega⟩, ⟨_, rfl⟩, _, rfl⟩, sc00 g, lc00 g, rfl⟩
  · exact ⟨⟨⟨rfl, rfl⟩, po00, to00, ⟨_, rfl⟩, _, rfl⟩, ⟨rfl, rfl, rfl⟩, ⟨⟨_, rfl⟩, ⟨_, rfl⟩, ⟨_, rfl⟩, ⟨_, rfl⟩, _, rfl⟩, rfl, sm00 g, lm00 g, rfl, rfl⟩
  · refine ⟨gq00, Or.inl rfl, fun q => absurd q (by decide), fun k _ => ⟨Or.inl rfl, Nat.zero_le _, fun _ _ => nb0⟩, fun k _ => ⟨by show 0 < 4; omega, fun q => absurd q (show ¬ (0 : Nat) = 1 by omega), Nat.zero_le _⟩, by omega⟩
def TGL : List Nat := [236, 279, 312, 345, 378, 421, 454, 487, 520, 543, 576, 599, 622, 655, 688, 711, 734, 757, 800, 833, 856, 879, 912, 925, 968, 1011, 1044, 1057, 1080, 1123, 1146, 1159, 1192, 1215, 1258, 1301, 1324, 1347, 1410, 1453, 1486, 1519, 1552, 1575, 1598, 1611, 1624]
set_option maxHeartbeats 4000000 in
set_option maxRecDepth 100000 in
theorem law_nx {g : Gl} {d kc ks i : Nat} {h : AH} {Q : AH → Option Value → Prop} (K : Ex g mL_law d kc ks 18 [some (.ref (sB g)), some (.ref (g.1 + 0)), some (.ref (g.1 + 75)), some (.int (nI (i + 6)))] [] h Q) : Ex g mL_law d kc ks 1647 [some (.ref (sB g)), some (.ref (g.1 + 0)), some (.ref (g.1 + 75)), some (.int (nI i))] [] h Q := by
  refine sx_iinc (pc := 1647) dL_law_1647 rfl rfl (by decide) ?_
  show Ex _ _ _ _ _ _ [_, _, _, some (.int (nI i + Int32.ofInt 6))] _ _ _
  rw [show nI i + Int32.ofInt 6 = nI (i + 6) from nI_add i 6]
  refine ex_goto (pc := 1650) (tgt := 18) dL_law_1650 (by decide) ?_
  exact K
theorem cmp6 {i L : Nat} (hi : i ≤ 4000) (hL : L ≤ 3072) : nI L - nI 6 < nI i ↔ L < i + 6 := by
  have e1 : (nI i).toInt = i := nI_toInt (by omega)
  have e2 : (nI L - nI 6).toInt = (L : Int) - 6 := by
    rw [Int32.toInt_sub, nI_toInt (by omega), nI_toInt (by omega)]
    rw [Int.bmod_def]
    omega
  rw [Int32.lt_iff_toInt_lt, e1, e2]
  omega
set_option maxHeartbeats 4000000 in
set_option maxRecDepth 100000 in
theorem law_go {g : Gl} {d kc ks i : Nat} {h : AH} {Q : AH → Option Value → Prop} {k t : Nat} (hi : i + 6 ≤ sN g) (hN : sN g ≤ 3072) (hk : k < 47) (ht : TGL.getD k 0 = t) (e : sv g i &&& nI 63 = nI k) (K : Ex g mL_law d kc ks t [some (.ref (sB g)), some (.ref (g.1 + 0)), some (.ref (g.1 + 75)), some (.int (nI i))] [] h Q) : Ex g mL_law d kc ks 18 [some (.ref (sB g)), some (.ref (g.1 + 0)), some (.ref (g.1 + 75)), some (.int (nI i))] [] h Q := by
  refine ex_iload_n (pc := 18) dL_law_18 rfl ?_
  refine ex_aload_n (pc := 19) dL_law_19 rfl ?_
  refine ex_slen (pc := 20) dL_law_20  ?_
  refine ex_bipush (pc := 21) (v := (nI 6)) dL_law_21 (by decide) ?_
  refine ex_isub (pc := 23) dL_law_23 ?_
  refine bx_icmp_gt_f (pc := 24) (tgt := 1653) dL_law_24 (by decide) (fun q => absurd ((cmp6 (by omega) hN).mp q) (by omega)) ?_
  refine ex_aload_n (pc := 27) dL_law_27 rfl ?_
  refine ex_iload_n (pc := 28) dL_law_28 rfl ?_
  refine ex_sld (pc := 29) dL_law_29 (vp_in_nI (show i < sN g by omega) (show sN g < 2147483648 by omega)) ?_
  rw [nI_clamp (by omega)]
  refine ex_bipush (pc := 30) (v := (nI 63)) dL_law_30 (by decide) ?_
  refine ex_iand (pc := 32) dL_law_32 ?_
  refine ex_tsw (pc := 33) (n := 47) (l0 := 0) (tg := fun j => TGL.getD j 0) (td := 1647) dL_law_33 rfl rfl (by decide +kernel) (by decide) (by decide) (fun jj hjj cc => ?_) (fun cc => ?_)
  · have q : nI k = nI (0 + jj) := e.symm.trans cc
    rw [(nI_eq (by omega) (by omega)).mp q, Nat.zero_add] at ht
    rw [ht]; exact K
  · exact absurd (e.trans (by rw [Nat.zero_add])) (cc k hk)
set_option maxHeartbeats 4000000 in
set_option maxRecDepth 100000 in
theorem law_df {g : Gl} {d kc ks i : Nat} {h : AH} {Q : AH → Option Value → Prop} (hi : i + 6 ≤ sN g) (hN : sN g ≤ 3072) (e : ∀ k, k < 47 → ¬ sv g i &&& nI 63 = nI k) (K : Ex g mL_law d kc ks 1647 [some (.ref (sB g)), some (.ref (g.1 + 0)), some (.ref (g.1 + 75)), some (.int (nI i))] [] h Q) : Ex g mL_law d kc ks 18 [some (.ref (sB g)), some (.ref (g.1 + 0)), some (.ref (g.1 + 75)), some (.int (nI i))] [] h Q := by
  refine ex_iload_n (pc := 18) dL_law_18 rfl ?_
  refine ex_aload_n (pc := 19) dL_law_19 rfl ?_
  refine ex_slen (pc := 20) dL_law_20  ?_
  refine ex_bipush (pc := 21) (v := (nI 6)) dL_law_21 (by decide) ?_
  refine ex_isub (pc := 23) dL_law_23 ?_
  refine bx_icmp_gt_f (pc := 24) (tgt := 1653) dL_law_24 (by decide) (fun q => absurd ((cmp6 (by omega) hN).mp q) (by omega)) ?_
  refine ex_aload_n (pc := 27) dL_law_27 rfl ?_
  refine ex_iload_n (pc := 28) dL_law_28 rfl ?_
  refine ex_sld (pc := 29) dL_law_29 (vp_in_nI (show i < sN g by omega) (show sN g < 2147483648 by omega)) ?_
  rw [nI_clamp (by omega)]
  refine ex_bipush (pc := 30) (v := (nI 63)) dL_law_30 (by decide) ?_
  refine ex_iand (pc := 32) dL_law_32 ?_
  refine ex_tsw (pc := 33) (n := 47) (l0 := 0) (tg := fun j => TGL.getD j 0) (td := 1647) dL_law_33 rfl rfl (by decide +kernel) (by decide) (by decide) (fun jj hjj cc => ?_) (fun cc => ?_)
  · have q : sv g i &&& nI 63 = nI (0 + jj) := cc
    rw [Nat.zero_add] at q
    exact absurd q (e jj hjj)
  · exact K
set_option maxHeartbeats 4000000 in
set_option maxRecDepth 100000 in
theorem law_end {g : Gl} {d ks i : Nat} {h : AH} {Q : AH → Option Value → Prop} (hi : sN g < i + 6) (hi2 : i ≤ 4000) (hN : sN g ≤ 3072) (hQ : ∀ h, Q h (some (.int 1))) : Ex g mL_law d 0 ks 18 [some (.ref (sB g)), some (.ref (g.1 + 0)), some (.ref (g.1 + 75)), some (.int (nI i))] [] h Q := by
  refine ex_iload_n (pc := 18) dL_law_18 rfl ?_
  refine ex_aload_n (pc := 19) dL_law_19 rfl ?_
  refine ex_slen (pc := 20) dL_law_20  ?_
  refine ex_bipush (pc := 21) (v := (nI 6)) dL_law_21 (by decide) ?_
  refine ex_isub (pc := 23) dL_law_23 ?_
  refine bx_icmp_gt_t (pc := 24) (tgt := 1653) dL_law_24 (by decide) ((cmp6 (by omega) hN).mpr (by omega)) ?_
  refine ex_iconst (pc := 1653) (v := 1) dL_law_1653 (by decide) ?_
  refine ex_zret dL_law_1654 rfl (by first | exact Or.inl rfl | exact Or.inr rfl | exact bI_01 _) ?_
  exact hQ h
theorem feed_96 {tf : Nat → Int32} {tl : Nat} (h : tl ≤ 96) (a b c : Int32) : (nFeed tf tl a b c).2 ≤ 96 := by
  unfold nFeed; split
  · assumption
  · exact h
theorem trim_96 {tl : Nat} (h : tl ≤ 96) (a : Int32) : nTrim tl a ≤ 96 := by
  unfold nTrim
  split
  · rename_i q
    obtain ⟨x, hx, e⟩ := bw_ex q
    unfold ixI
    rw [e, iK (by omega)]; omega
  · exact h
theorem IV.nt14 {g : Gl} {h : AH} {nt : Nat} {ik : Int32} {nti : Nat} {tf : Nat → Int32} {tl j : Nat} (a : IV g h nt ik nti tf tl j) : nt ≤ 14 := by
  obtain ⟨-, -, -, s, n, im, ni, S, L, wf, c, z, hC, -⟩ := a
  exact hC.2.1.2.2.1.2.1
set_option maxHeartbeats 4000000 in
set_option maxRecDepth 100000 in
theorem law_loop {g : Gl} {d : Nat} {Q : AH → Option Value → Prop} (hN : sN g ≤ 3072) (hd : 80 ≤ d) (hQ : ∀ h, Q h (some (.int 1))) : ∀ (m i nt : Nat) (ik : Int32) (nti : Nat) (tf : Nat → Int32) (tl j : Nat), i ≤ 3072 + 6 → sN g < i + 6 * m + 6 → TpB tf → tl ≤ 96 → (ik = 0 ∨ ik = nI 1) → ∃ kc ks, kc ≤ 3 * m ∧ ks ≤ 200 * m ∧ ∀ h, IV g h nt ik nti tf tl j → Ex g mL_law d kc ks 18 [some (.ref (sB g)), some (.ref (g.1 + 0)), some (.ref (g.1 + 75)), some (.int (nI i))] [] h Q := by
  intro m
  induction m with
  | zero =>
    intro i nt ik nti tf tl j hi3 hm hB htl hik
    exact ⟨0, 0, by omega, by omega, fun h _ => law_end (by omega) (by omega) hN hQ⟩
  | succ m ih =>
    intro i nt ik nti tf tl j hi3 hm hB htl hik
    by_cases hi : i + 6 ≤ sN g
    · by_cases e : ∃ k, k < 47 ∧ sv g i &&& nI 63 = nI k
      · obtain ⟨k, hk, e⟩ := e
        rcases (show k = 0 ∨ k = 1 ∨ k = 2 ∨ k = 3 ∨ k = 4 ∨ k = 5 ∨ k = 6 ∨ k = 7 ∨ k = 8 ∨ k = 9 ∨ k = 10 ∨ k = 11 ∨ k = 12 ∨ k = 13 ∨ k = 14 ∨ k = 15 ∨ k = 16 ∨ k = 17 ∨ k = 18 ∨ k = 19 ∨ k = 20 ∨ k = 21 ∨ k = 22 ∨ k = 23 ∨ k = 24 ∨ k = 25 ∨ k = 26 ∨ k = 27 ∨ k = 28 ∨ k = 29 ∨ k = 30 ∨ k = 31 ∨ k = 32 ∨ k = 33 ∨ k = 34 ∨ k = 35 ∨ k = 36 ∨ k = 37 ∨ k = 38 ∨ k = 39 ∨ k = 40 ∨ k = 41 ∨ k = 42 ∨ k = 43 ∨ k = 44 ∨ k = 45 ∨ k = 46 by omega) with rfl | rfl | rfl | rfl | rfl | rfl | rfl | rfl | rfl | rfl | rfl | rfl | rfl | rfl | rfl | rfl | rfl | rfl | rfl | rfl | rfl | rfl | rfl | rfl | rfl | rfl | rfl | rfl | rfl | rfl | rfl | rfl | rfl | rfl | rfl | rfl | rfl | rfl | rfl | rfl | rfl | rfl | rfl | rfl | rfl | rfl | rfl
        · obtain ⟨kc, ks, b1, b2, F⟩ := ih (i + 6) nt ik nti tf tl j (by omega) (by omega) hB htl hik
          exact ⟨kc, ks, by omega, by omega, fun h hI => law_go hi hN (by decide) rfl e (lc_post hi hN hd hI (fun h' hI' => law_nx (F h' hI')))⟩
        · obtain ⟨kc, ks, b1, b2, F⟩ := ih (i + 6) nt ik nti tf tl j (by omega) (by omega) hB htl hik
          exact ⟨kc, ks, by omega, by omega, fun h hI => law_go hi hN (by decide) rfl e (lc_told hi hN hd hI (fun h' hI' => law_nx (F h' hI')))⟩
        · obtain ⟨kc, ks, b1, b2, F⟩ := ih (i + 6) nt ik nti tf tl j (by omega) (by omega) hB htl hik
          exact ⟨kc, ks, by omega, by omega, fun h hI => law_go hi hN (by decide) rfl e (lc_as hi hN hd hI (fun h' hI' => law_nx (F h' hI')))⟩
        · obtain ⟨kc, ks, b1, b2, F⟩ := ih (i + 6) nt ik nti tf tl j (by omega) (by omega) hB htl hik
          exact ⟨kc, ks, by omega, by omega, fun h hI => law_go hi hN (by decide) rfl e (lc_turns hi hN hd hI (fun h' hI' => law_nx (F h' hI')))⟩
        · obtain ⟨kc, ks, b1, b2, F⟩ := ih (i + 6) nt ik nti tf tl j (by omega) (by omega) hB htl hik
          exact ⟨kc, ks, by omega, by omega, fun h hI => law_go hi hN (by decide) rfl e (lc_set hi hN hd hI (fun h' hI' => law_nx (F h' hI')))⟩
        · obtain ⟨kc, ks, b1, b2, F⟩ := ih (i + 6) nt ik nti tf tl j (by omega) (by omega) hB htl hik
          exact ⟨kc, ks, by omega, by omega, fun h hI => law_go hi hN (by decide) rfl e (lc_moves hi hN hd hI (fun h' hI' => law_nx (F h' hI')))⟩
        · obtain ⟨kc, ks, b1, b2, F⟩ := ih (i + 6) nt ik nti tf tl j (by omega) (by omega) hB htl hik
          exact ⟨kc, ks, by omega, by omega, fun h hI => law_go hi hN (by decide) rfl e (lc_wall hi hN hd hI (fun h' hI' => law_nx (F h' hI')))⟩
        · obtain ⟨kc, ks, b1, b2, F⟩ := ih (i + 6) nt ik nti tf tl j (by omega) (by omega) hB htl hik
          exact ⟨kc, ks, by omega, by omega, fun h hI => law_go hi hN (by decide) rfl e (lc_at hi hN hd hI (fun h' hI' => law_nx (F h' hI')))⟩
        · obtain ⟨kc, ks, b1, b2, F⟩ := ih (i + 6) nt ik nti tf tl j (by omega) (by omega) hB htl hik
          exact ⟨kc, ks, by omega, by omega, fun h hI => law_go hi hN (by decide) rfl e (lc_thief hi hN hd hI (fun h' hI' => law_nx (F h' hI')))⟩
        · obtain ⟨kc, ks, b1, b2, F⟩ := ih (i + 6) nt ik nti tf tl j (by omega) (by omega) hB htl hik
          exact ⟨kc, ks, by omega, by omega, fun h hI => law_go hi hN (by decide) rfl e (lc_rule hi hN hd hI (fun h' hI' => law_nx (F h' hI')))⟩
        · obtain ⟨kc, ks, b1, b2, F⟩ := ih (i + 6) nt ik nti tf tl j (by omega) (by omega) hB htl hik
          exact ⟨kc, ks, by omega, by omega, fun h hI => law_go hi hN (by decide) rfl e (lc_deal hi hN hd hI (fun h' hI' => law_nx (F h' hI')))⟩
        · obtain ⟨kc, ks, b1, b2, F⟩ := ih (i + 6) nt ik nti tf tl j (by omega) (by omega) hB htl hik
          exact ⟨kc, ks, by omega, by omega, fun h hI => law_go hi hN (by decide) rfl e (lc_seed hi hN hd hI (fun h' hI' => law_nx (F h' hI')))⟩
        · obtain ⟨kc, ks, b1, b2, F⟩ := ih (i + 6) nt ik nti tf tl j (by omega) (by omega) hB htl hik
          exact ⟨kc, ks, by omega, by omega, fun h hI => law_go hi hN (by decide) rfl e (lc_sees hi hN hd hI (fun h' hI' => law_nx (F h' hI')))⟩
        · obtain ⟨kc, ks, b1, b2, F⟩ := ih (i + 6) nt ik nti tf tl j (by omega) (by omega) hB htl hik
          exact ⟨kc, ks, by omega, by omega, fun h hI => law_go hi hN (by decide) rfl e (lc_row hi hN hd hI (fun h' hI' => law_nx (F h' hI')))⟩
        · obtain ⟨kc, ks, b1, b2, F⟩ := ih (i + 6) nt ik nti tf tl j (by omega) (by omega) hB htl hik
          exact ⟨kc, ks, by omega, by omega, fun h hI => law_go hi hN (by decide) rfl e (lc_watched hi hN hd hI (fun h' hI' => law_nx (F h' hI')))⟩
        · obtain ⟨kc, ks, b1, b2, F⟩ := ih (i + 6) nt ik nti tf tl j (by omega) (by omega) hB htl hik
          exact ⟨kc, ks, by omega, by omega, fun h hI => law_go hi hN (by decide) rfl e (lc_spare hi hN hd hI (fun h' hI' => law_nx (F h' hI')))⟩
        · obtain ⟨kc, ks, b1, b2, F⟩ := ih (i + 6) nt ik nti tf tl j (by omega) (by omega) hB htl hik
          exact ⟨kc, ks, by omega, by omega, fun h hI => law_go hi hN (by decide) rfl e (lc_fewest hi hN hd hI (fun h' hI' => law_nx (F h' hI')))⟩
        · obtain ⟨kc, ks, b1, b2, F⟩ := ih (i + 6) nt ik nti tf tl j (by omega) (by omega) hB htl hik
          exact ⟨kc, ks, by omega, by omega, fun h hI => law_go hi hN (by decide) rfl e (lc_stand hi hN hd hI (fun h' hI' => law_nx (F h' hI')))⟩
        · obtain ⟨kc, ks, b1, b2, F⟩ := ih (i + 6) nt ik nti tf tl j (by omega) (by omega) hB htl hik
          exact ⟨kc, ks, by omega, by omega, fun h hI => law_go hi hN (by decide) rfl e (lc_sneak hi hN hd hI (fun h' hI' => law_nx (F h' hI')))⟩
        · obtain ⟨kc, ks, b1, b2, F⟩ := ih (i + 6) nt ik nti tf tl j (by omega) (by omega) hB htl hik
          exact ⟨kc, ks, by omega, by omega, fun h hI => law_go hi hN (by decide) rfl e (lc_hours hi hN hd hI (fun h' hI' => law_nx (F h' hI')))⟩
        · obtain ⟨kc, ks, b1, b2, F⟩ := ih (i + 6) nt ik nti tf tl j (by omega) (by omega) hB htl hik
          exact ⟨kc, ks, by omega, by omega, fun h hI => law_go hi hN (by decide) rfl e (lc_room hi hN hd hI (fun h' hI' => law_nx (F h' hI')))⟩
        · obtain ⟨kc, ks, b1, b2, F⟩ := ih (i + 6) nt ik nti tf tl j (by omega) (by omega) hB htl hik
          exact ⟨kc, ks, by omega, by omega, fun h hI => law_go hi hN (by decide) rfl e (lc_behind hi hN hd hI (fun h' hI' => law_nx (F h' hI')))⟩
        · obtain ⟨kc, ks, b1, b2, F⟩ := ih (i + 6) nt ik nti tf tl j (by omega) (by omega) hB htl hik
          exact ⟨kc, ks, by omega, by omega, fun h hI => law_go hi hN (by decide) rfl e (lc_catches hi hN hd hI (fun h' hI' => law_nx (F h' hI')))⟩
        · obtain ⟨kc, ks, b1, b2, F⟩ := ih (i + 6) nt ik nti tf tl j (by omega) (by omega) hB htl hik
          exact ⟨kc, ks, by omega, by omega, fun h hI => law_go hi hN (by decide) rfl e (lc_faces hi hN hd hI (fun h' hI' => law_nx (F h' hI')))⟩
        · obtain ⟨kc, ks, b1, b2, F⟩ := ih (i + 6) nt ik nti tf tl j (by omega) (by omega) hB htl hik
          exact ⟨kc, ks, by omega, by omega, fun h hI => law_go hi hN (by decide) rfl e (lc_becomes hi hN hd hI (fun h' hI' => law_nx (F h' hI')))⟩
        · obtain ⟨kc, ks, b1, b2, F⟩ := ih (i + 6) nt ik nti tf tl j (by omega) (by omega) hB htl hik
          exact ⟨kc, ks, by omega, by omega, fun h hI => law_go hi hN (by decide) rfl e (lc_like hi hN hd hI (fun h' hI' => law_nx (F h' hI')))⟩
        · obtain ⟨kc, ks, b1, b2, F⟩ := ih (i + 6) nt ik nti tf tl j (by omega) (by omega) hB htl hik
          exact ⟨kc, ks, by omega, by omega, fun h hI => law_go hi hN (by decide) rfl e (lc_fee hi hN hd hI (fun h' hI' => law_nx (F h' hI')))⟩
        · obtain ⟨kc, ks, b1, b2, F⟩ := ih (i + 6) nt ik nti tf tl j (by omega) (by omega) hB htl hik
          exact ⟨kc, ks, by omega, by omega, fun h hI => law_go hi hN (by decide) rfl e (lc_fine hi hN hd hI (fun h' hI' => law_nx (F h' hI')))⟩
        · obtain ⟨kc, ks, b1, b2, F⟩ := ih (i + 6) nt ik nti ((nFeed tf tl (sv g (i + 1)) (sv g (i + 2)) (sv g (i + 3))).1) ((nFeed tf tl (sv g (i + 1)) (sv g (i + 2)) (sv g (i + 3))).2) j (by omega) (by omega) (g_feed hB _ _ _) (feed_96 htl _ _ _) hik
          exact ⟨kc, ks, by omega, by omega, fun h hI => law_go hi hN (by decide) rfl e (lc_feed hi hN hd hI (fun h' hI' => law_nx (F h' hI')))⟩
        · obtain ⟨kc, ks, b1, b2, F⟩ := ih (i + 6) nt ik nti tf (nTrim tl (sv g (i + 1))) j (by omega) (by omega) hB (trim_96 htl _) hik
          exact ⟨kc, ks, by omega, by omega, fun h hI => law_go hi hN (by decide) rfl e (lc_trim hi hN hd hI (fun h' hI' => law_nx (F h' hI')))⟩
        · obtain ⟨tb, hTb⟩ := hB.ok
          obtain ⟨ts, hts⟩ := ts_ex tb tl htl
          by_cases ho : okT (kyv tb tl (bgT tb tl 0)) ts
          · by_cases hf : nt < 14
            · obtain ⟨kc, ks, b1, b2, F⟩ := ih (i + 6) (nt + 1) ik nti tf 0 (j + 1) (by omega) (by omega) hB (Nat.zero_le _) hik
              have l1 := prLen (8 * ts.length + 8) 1 ts 0 0
              have l2 := (hts ho.1).2
              have l3 := lvs_le (prG ts).2.2
              have l4 : (prG ts).2.2.length ≤ ts.length := by unfold prG; omega
              exact ⟨_, _, by omega, by omega, fun h hI => law_go hi hN (by decide) rfl e (lc_text_y hTb hts ho hf hi hN hd hI (fun h' hI' => law_nx (F h' hI')))⟩
            · obtain ⟨kc, ks, b1, b2, F⟩ := ih (i + 6) nt ik nti tf 0 j (by omega) (by omega) hB (Nat.zero_le _) hik
              exact ⟨kc, ks, by omega, by omega, fun h hI => law_go hi hN (by decide) rfl e (lc_text_f hTb hts ho (by have := hI.nt14; omega) hi hN hd hI (fun h' hI' => law_nx (F h' hI')))⟩
          · obtain ⟨kc, ks, b1, b2, F⟩ := ih (i + 6) nt ik nti tf 0 j (by omega) (by omega) hB (Nat.zero_le _) hik
            exact ⟨kc, ks, by omega, by omega, fun h hI => law_go hi hN (by decide) rfl e (lc_text_n hTb hts ho hi hN hd hI (fun h' hI' => law_nx (F h' hI')))⟩
        · obtain ⟨kc, ks, b1, b2, F⟩ := ih (i + 6) nt ik nti tf tl j (by omega) (by omega) hB htl hik
          exact ⟨kc, ks, by omega, by omega, fun h hI => law_go hi hN (by decide) rfl e (lc_textTold hi hN hd hI (fun h' hI' => law_nx (F h' hI')))⟩
        · obtain ⟨kc, ks, b1, b2, F⟩ := ih (i + 6) nt ik nti tf tl j (by omega) (by omega) hB htl hik
          exact ⟨kc, ks, by omega, by omega, fun h hI => law_go hi hN (by decide) rfl e (lc_why hi hN hd hI (fun h' hI' => law_nx (F h' hI')))⟩
        · obtain ⟨kc, ks, b1, b2, F⟩ := ih (i + 6) nt ik nti tf tl j (by omega) (by omega) hB htl hik
          exact ⟨kc, ks, by omega, by omega, fun h hI => law_go hi hN (by decide) rfl e (lc_sheet hi hN hd hI (fun h' hI' => law_nx (F h' hI')))⟩
        · obtain ⟨kc, ks, b1, b2, F⟩ := ih (i + 6) nt ik nti tf tl j (by omega) (by omega) hB htl hik
          exact ⟨kc, ks, by omega, by omega, fun h hI => law_go hi hN (by decide) rfl e (lc_mark hi hN hd hI (fun h' hI' => law_nx (F h' hI')))⟩
        · obtain ⟨kc, ks, b1, b2, F⟩ := ih (i + 6) nt ik nti tf tl j (by omega) (by omega) hB htl hik
          exact ⟨kc, ks, by omega, by omega, fun h hI => law_go hi hN (by decide) rfl e (lc_pour hi hN hd hI (fun h' hI' => law_nx (F h' hI')))⟩
        · obtain ⟨kc, ks, b1, b2, F⟩ := ih (i + 6) nt ik nti tf tl j (by omega) (by omega) hB htl hik
          exact ⟨kc, ks, by omega, by omega, fun h hI => law_go hi hN (by decide) rfl e (lc_reads hi hN hd hI (fun h' hI' => law_nx (F h' hI')))⟩
        · obtain ⟨kc, ks, b1, b2, F⟩ := ih (i + 6) nt ik nti tf tl j (by omega) (by omega) hB htl hik
          exact ⟨kc, ks, by omega, by omega, fun h hI => law_go hi hN (by decide) rfl e (lc_copy hi hN hd hI (fun h' hI' => law_nx (F h' hI')))⟩
        · obtain ⟨kc, ks, b1, b2, F⟩ := ih (i + 6) nt ik nti tf tl j (by omega) (by omega) hB htl hik
          exact ⟨kc, ks, by omega, by omega, fun h hI => law_go hi hN (by decide) rfl e (lc_lay hi hN hd hI (fun h' hI' => law_nx (F h' hI')))⟩
        · obtain ⟨kc, ks, b1, b2, F⟩ := ih (i + 6) nt ik nti tf tl j (by omega) (by omega) hB htl hik
          exact ⟨kc, ks, by omega, by omega, fun h hI => law_go hi hN (by decide) rfl e (lc_ask hi hN hd hI (fun h' hI' => law_nx (F h' hI')))⟩
        · obtain ⟨kc, ks, b1, b2, F⟩ := ih (i + 6) nt ik nti tf tl j (by omega) (by omega) hB htl hik
          exact ⟨kc, ks, by omega, by omega, fun h hI => law_go hi hN (by decide) rfl e (lc_item hi hN hd hI (fun h' hI' => law_nx (F h' hI')))⟩
        · obtain ⟨kc, ks, b1, b2, F⟩ := ih (i + 6) nt ik nti tf tl j (by omega) (by omega) hB htl hik
          exact ⟨kc, ks, by omega, by omega, fun h hI => law_go hi hN (by decide) rfl e (lc_rest hi hN hd hI (fun h' hI' => law_nx (F h' hI')))⟩
        · obtain ⟨kc, ks, b1, b2, F⟩ := ih (i + 6) nt ik nti tf tl j (by omega) (by omega) hB htl hik
          exact ⟨kc, ks, by omega, by omega, fun h hI => law_go hi hN (by decide) rfl e (lc_tell hi hN hd hI (fun h' hI' => law_nx (F h' hI')))⟩
        · obtain ⟨kc, ks, b1, b2, F⟩ := ih (i + 6) nt ik nti tf tl j (by omega) (by omega) hB htl hik
          exact ⟨kc, ks, by omega, by omega, fun h hI => law_go hi hN (by decide) rfl e (lc_check hi hN hd hI (fun h' hI' => law_nx (F h' hI')))⟩
        · obtain ⟨kc, ks, b1, b2, F⟩ := ih (i + 6) nt (nI 1) nt tf tl j (by omega) (by omega) hB htl (Or.inr rfl)
          exact ⟨kc, ks, by omega, by omega, fun h hI => law_go hi hN (by decide) rfl e (lc_keep hi hN hd hI (fun h' hI' => law_nx (F h' hI')))⟩
        · rcases hik with e0 | e1
          · obtain ⟨kc, ks, b1, b2, F⟩ := ih (i + 6) nt ik nti tf tl j (by omega) (by omega) hB htl (Or.inl e0)
            exact ⟨kc, ks, by omega, by omega, fun h hI => law_go hi hN (by decide) rfl e (lc_back_n e0 hi hN hd hI (fun h' hI' => law_nx (F h' hI')))⟩
          · obtain ⟨kc, ks, b1, b2, F⟩ := ih (i + 6) nti (nI 1) nti tf tl j (by omega) (by omega) hB htl (Or.inr rfl)
            exact ⟨kc, ks, by omega, by omega, fun h hI => law_go hi hN (by decide) rfl e (lc_back_y e1 hi hN hd hI (fun h' hI' => law_nx (F h' hI')))⟩
        · obtain ⟨kc, ks, b1, b2, F⟩ := ih (i + 6) nt ik nti tf tl j (by omega) (by omega) hB htl hik
          exact ⟨kc, ks, by omega, by omega, fun h hI => law_go hi hN (by decide) rfl e (lc_count hi hN hd hI (fun h' hI' => law_nx (F h' hI')))⟩
      · obtain ⟨kc, ks, b1, b2, F⟩ := ih (i + 6) nt ik nti tf tl j (by omega) (by omega) hB htl hik
        exact ⟨kc, ks, by omega, by omega, fun h hI => law_df hi hN (fun k hk q => e ⟨k, hk, q⟩) (law_nx (F h hI))⟩
    · exact ⟨0, 0, by omega, by omega, fun h _ => law_end (by omega) (by omega) hN hQ⟩

/-! the class's text -/
theorem lvs_le : ∀ A : List Stq, lvs A ≤ A.length := by
  intro A
  induction A with
  | nil => exact Nat.le_refl _
  | cons x A ih => rw [lvs, List.length_cons]; split <;> omega
def FrA (S : Nat → Prop) (g : Gl) (h h' : AH) (n : Nat) : Prop := h'.length = h.length + n ∧ (∀ k, k < h.length → ¬ S k → ¬ scr k → h'[k]? = h[k]?) ∧ ∀ k, scr k → ∀ m f, h[k]? = some (ia g m f) → ∃ f', h'[k]? = some (ia g m f')
def txS (k : Nat) : Prop := k = 1 ∨ k = 3 ∨ k = 4 ∨ k = 40 ∨ k = 42 ∨ k = 43
theorem RdA.z {g : Gl} {h : AH} {r tf : Nat → Int32} {tl : Nat} (a : RdA g h r tf tl) : RdA g (h.set 40 (rdC g (upd r 1 (nI 0)))) (upd r 1 (nI 0)) tf 0 := by
  obtain ⟨hT, ⟨fs, h42⟩, fo, h43⟩ := a
  exact ⟨⟨gs_eq hT.1, gs_ne (by decide) hT.2.1, upd_eq, by omega⟩, ⟨fs, gs_ne (by decide) h42⟩, fo, gs_ne (by decide) h43⟩
set_option maxHeartbeats 4000000 in
set_option maxRecDepth 100000 in
theorem c_W_text_n {g : Gl} {d ks : Nat} {h : AH} {ik wc : Int32} {s : Nat → Int32} {w : Int64} {nt : Nat} (hW : h[0]? = some (wtC g ik wc)) (h1 : h[1]? = some (rmC g 1 s w)) (hn : s 1 = nI nt) {r tf : Nat → Int32} {tb : Nat → Nat} {tl : Nat} (hK : KeyOk g) (hA : RdA g h r tf tl) (hB : TpOk tf tb) {ts : List Tkn} (hts : kyv tb tl (bgT tb tl 0) < 3 → TkL tb tl (kyv tb tl (bgT tb tl 0)) (enT tb tl (bgT tb tl 0)) ts ∧ ts.length ≤ 96) (hd : 11 ≤ d) (hpl : plT tb tl (kyv tb tl (bgT tb tl 0)) ts < 2147483648) (ho : ¬ okT (kyv tb tl (bgT tb tl 0)) ts) : Ex g mX6_text d 0 ks 0 [some (.ref (g.1 + 0)), none] [] h (qi (fun h' x => x = -100 - nI (plT tb tl (kyv tb tl (bgT tb tl 0)) ts) ∧ FrX rdW g h h' ∧ ∃ r', RdA g h' r' tf 0)) := by
  refine ex_aload_n (pc := 0) dX6_text_0 rfl ?_
  refine ex_get (pc := 1) dX6_text_1 fl_X6_44 hW rfl ?_
  refine cx_VL0i (pc := 4) dX6_text_4 lk_X6_254 hA.1.1 rfl (Nat.le_of_ble_eq_true rfl) (Nat.le_of_ble_eq_true rfl) (by omega) (c_R_findFault hK hA hB hts (by omega)) (fun h_4 x_4 q_4 => ?_)
  obtain ⟨f4, r4, hA4, ok4, no4⟩ := q_4
  have hW4 := f4.at (k := 0) (by unfold rdW; decide) (nscr (by omega)) hW
  have h14 := f4.at (k := 1) (by unfold rdW; decide) (nscr (by omega)) h1
  refine sx_istore_n (pc := 7) dX6_text_7 rfl (by decide) ?_
  show Ex _ _ _ _ _ _ [_, _] _ _ _
  refine ex_aload_n (pc := 8) dX6_text_8 rfl ?_
  refine ex_get (pc := 9) dX6_text_9 fl_X6_44 hW4 rfl ?_
  refine ex_iconst (pc := 12) (v := (nI 0)) dX6_text_12 (by decide) ?_
  refine ex_put (pc := 13) dX6_text_13 fp_X6_248 hA4.1.1 (Nat.le_of_ble_eq_true rfl) rfl rfl ?_
  rw [rd_1]
  have hA5 := hA4.z
  refine ex_iload_n (pc := 16) dX6_text_16 rfl ?_
  refine bx_if_lt_f (pc := 17) (tgt := 25) dX6_text_17 (by decide) (by rw [no4 ho]; exact Int32.not_lt.mpr (nI_pos' hpl)) ?_
  refine ex_bipush (pc := 20) (v := (-100)) dX6_text_20 (by decide) ?_
  refine ex_iload_n (pc := 22) dX6_text_22 rfl ?_
  refine ex_isub (pc := 23) dX6_text_23 ?_
  refine ex_ret dX6_text_24 rfl ?_
  rw [no4 ho]
  exact qi_mk ⟨rfl, f4.tr (FrX.st (Or.inl rfl) (nscr (by omega))), _, hA5⟩
set_option maxHeartbeats 4000000 in
set_option maxRecDepth 100000 in
theorem c_W_text_f {g : Gl} {d ks : Nat} {h : AH} {ik wc : Int32} {s : Nat → Int32} {w : Int64} {nt : Nat} (hW : h[0]? = some (wtC g ik wc)) (h1 : h[1]? = some (rmC g 1 s w)) (hn : s 1 = nI nt) {r tf : Nat → Int32} {tb : Nat → Nat} {tl : Nat} (hK : KeyOk g) (hA : RdA g h r tf tl) (hB : TpOk tf tb) {ts : List Tkn} (hts : kyv tb tl (bgT tb tl 0) < 3 → TkL tb tl (kyv tb tl (bgT tb tl 0)) (enT tb tl (bgT tb tl 0)) ts ∧ ts.length ≤ 96) (hd : 11 ≤ d) (ho : okT (kyv tb tl (bgT tb tl 0)) ts) (h14n : nt = 14) : Ex g mX6_text d 0 ks 0 [some (.ref (g.1 + 0)), none] [] h (qi (fun h' x => x = -1000000003 ∧ FrX rdW g h h' ∧ ∃ r', RdA g h' r' tf 0)) := by
  refine ex_aload_n (pc := 0) dX6_text_0 rfl ?_
  refine ex_get (pc := 1) dX6_text_1 fl_X6_44 hW rfl ?_
  refine cx_VL0i (pc := 4) dX6_text_4 lk_X6_254 hA.1.1 rfl (Nat.le_of_ble_eq_true rfl) (Nat.le_of_ble_eq_true rfl) (by omega) (c_R_findFault hK hA hB hts (by omega)) (fun h_4 x_4 q_4 => ?_)
  obtain ⟨f4, r4, hA4, ok4, no4⟩ := q_4
  have hW4 := f4.at (k := 0) (by unfold rdW; decide) (nscr (by omega)) hW
  have h14 := f4.at (k := 1) (by unfold rdW; decide) (nscr (by omega)) h1
  refine sx_istore_n (pc := 7) dX6_text_7 rfl (by decide) ?_
  show Ex _ _ _ _ _ _ [_, _] _ _ _
  refine ex_aload_n (pc := 8) dX6_text_8 rfl ?_
  refine ex_get (pc := 9) dX6_text_9 fl_X6_44 hW4 rfl ?_
  refine ex_iconst (pc := 12) (v := (nI 0)) dX6_text_12 (by decide) ?_
  refine ex_put (pc := 13) dX6_text_13 fp_X6_248 hA4.1.1 (Nat.le_of_ble_eq_true rfl) rfl rfl ?_
  rw [rd_1]
  have hA5 := hA4.z
  refine ex_iload_n (pc := 16) dX6_text_16 rfl ?_
  refine bx_if_lt_t (pc := 17) (tgt := 25) dX6_text_17 (by decide) (by rw [(ok4 ho).1]; decide) ?_
  refine ex_aload_n (pc := 25) dX6_text_25 rfl ?_
  refine ex_get (pc := 26) dX6_text_26 fl_X6_10 (gs_ne (by decide) hW4) rfl ?_
  refine ex_get (pc := 29) dX6_text_29 fl_X6_257 (gs_ne (by decide) h14) rfl ?_
  refine ex_bipush (pc := 32) (v := (nI 14)) dX6_text_32 (by decide) ?_
  refine bx_icmp_lt_f (pc := 34) (tgt := 40) dX6_text_34 (by decide) (by rw [hn, h14n]; decide) ?_
  refine ex_ldc (pc := 37) dX6_text_37 cn_X6_82 ?_
  refine ex_ret dX6_text_39 rfl ?_
  exact qi_mk ⟨rfl, f4.tr (FrX.st (Or.inl rfl) (nscr (by omega))), _, hA5⟩
set_option maxHeartbeats 4000000 in
set_option maxRecDepth 100000 in
theorem c_W_text_y {g : Gl} {d j : Nat} {h : AH} {ik wc : Int32} {s : Nat → Int32} {w : Int64} {nt : Nat} (hW : h[0]? = some (wtC g ik wc)) (h1 : h[1]? = some (rmC g 1 s w)) (hn : s 1 = nI nt) {r tf : Nat → Int32} {tb : Nat → Nat} {tl : Nat} (hK : KeyOk g) (hA : RdA g h r tf tl) (hB : TpOk tf tb) {ts : List Tkn} (hts : kyv tb tl (bgT tb tl 0) < 3 → TkL tb tl (kyv tb tl (bgT tb tl 0)) (enT tb tl (bgT tb tl 0)) ts ∧ ts.length ≤ 96) (hd : 11 ≤ d) {ft : Nat → Option Nat} {fl : Nat → Int32} (h3 : h[3]? = some (ra g 3 14 ft)) (h4 : h[4]? = some (ia g 3 fl)) (hlen : h.length = 95 + 3 * j) (ho : okT (kyv tb tl (bgT tb tl 0)) ts) (hnt : nt < 14) : Ex g mX6_text d (1 + (1 + (1 + 0 + 0)) + 0) ((prG ts).2.2.length + (4 + (lvs (prG ts).2.2 + 0 + 0)) + 0) 0 [some (.ref (g.1 + 0)), none] [] h (qi (fun h' x => x = nI nt ∧ FrA txS g h h' 3 ∧ (∃ r', RdA g h' r' tf 0) ∧ h'[1]? = some (rmC g 1 (upd s 1 (nI (nt + 1))) w) ∧ h'[3]? = some (ra g 3 14 (va_up ft nt (some (g.1 + (96 + 3 * j))))) ∧ h'[4]? = some (ia g 3 (upd fl (kyv tb tl (bgT tb tl 0)) (nI nt))) ∧ (∃ f, h'[95 + 3 * j]? = some (ia g (prG ts).2.2.length f) ∧ ∀ k, k < (prG ts).2.2.length → f k = encQ (kyv tb tl (bgT tb tl 0)) ((prG ts).2.2.getD k (0, 0))) ∧ h'[96 + 3 * j]? = some (ob 5 [.int (nI (kyv tb tl (bgT tb tl 0))), .int (nI (lvs (prG ts).2.2)), .ref (g.1 + (95 + 3 * j)), .ref (g.1 + (97 + 3 * j))]) ∧ h'[97 + 3 * j]? = some (ia g (lvs (prG ts).2.2) (fun _ => 0)))) := by
  refine ex_aload_n (pc := 0) dX6_text_0 rfl ?_
  refine ex_get (pc := 1) dX6_text_1 fl_X6_44 hW rfl ?_
  refine cx_VL0i (pc := 4) dX6_text_4 lk_X6_254 hA.1.1 rfl (Nat.le_of_ble_eq_true rfl) (Nat.le_of_ble_eq_true rfl) (by omega) (c_R_findFault hK hA hB hts (by omega)) (fun h_4 x_4 q_4 => ?_)
  obtain ⟨f4, r4, hA4, ok4, no4⟩ := q_4
  have hW4 := f4.at (k := 0) (by unfold rdW; decide) (nscr (by omega)) hW
  have h14 := f4.at (k := 1) (by unfold rdW; decide) (nscr (by omega)) h1
  refine sx_istore_n (pc := 7) dX6_text_7 rfl (by decide) ?_
  show Ex _ _ _ _ _ _ [_, _] _ _ _
  refine ex_aload_n (pc := 8) dX6_text_8 rfl ?_
  refine ex_get (pc := 9) dX6_text_9 fl_X6_44 hW4 rfl ?_
  refine ex_iconst (pc := 12) (v := (nI 0)) dX6_text_12 (by decide) ?_
  refine ex_put (pc := 13) dX6_text_13 fp_X6_248 hA4.1.1 (Nat.le_of_ble_eq_true rfl) rfl rfl ?_
  rw [rd_1]
  have hA5 := hA4.z
  obtain ⟨qx, ⟨fs, q42, qst⟩, q3, q6, q7, qL⟩ := ok4 ho
  refine ex_iload_n (pc := 16) dX6_text_16 rfl ?_
  refine bx_if_lt_t (pc := 17) (tgt := 25) dX6_text_17 (by decide) (by rw [(ok4 ho).1]; decide) ?_
  refine ex_aload_n (pc := 25) dX6_text_25 rfl ?_
  refine ex_get (pc := 26) dX6_text_26 fl_X6_10 (gs_ne (by decide) hW4) rfl ?_
  refine ex_get (pc := 29) dX6_text_29 fl_X6_257 (gs_ne (by decide) h14) rfl ?_
  refine ex_bipush (pc := 32) (v := (nI 14)) dX6_text_32 (by decide) ?_
  refine bx_icmp_lt_t (pc := 34) (tgt := 40) dX6_text_34 (by decide) (by rw [hn]; exact nI_lt hnt (by omega)) ?_
  refine ex_aload_n (pc := 40) dX6_text_40 rfl ?_
  refine ex_get (pc := 41) dX6_text_41 fl_X6_10 (gs_ne (by decide) hW4) rfl ?_
  refine ex_aload_n (pc := 44) dX6_text_44 rfl ?_
  refine ex_get (pc := 45) dX6_text_45 fl_X6_44 (gs_ne (by decide) hW4) rfl ?_
  refine cx_VL0rA (pc := 48) (kc' := 1 + (1 + (1 + 0 + 0))) (ks' := (prG ts).2.2.length + (4 + (lvs (prG ts).2.2 + 0 + 0))) dX6_text_48 lk_X6_260 hA5.1.1 rfl (Nat.le_of_ble_eq_true rfl) (Nat.le_of_ble_eq_true rfl) (by omega) (c_R_makeText (L := (prG ts).2.2.length) (ky := kyv tb tl (bgT tb tl 0)) (lv := lvs (prG ts).2.2) (j := j) hA5.1 (gs_ne (by decide) q42) ((upd_ne (by decide)).trans q3) ((upd_ne (by decide)).trans q6) ((upd_ne (by decide)).trans q7) qL (Nat.le_trans (lvs_le _) qL) (by rw [List.length_set, f4.1]; exact hlen) (by omega)) (fun h_48 x_48 q_48 => ?_)
  intro l_48
  obtain ⟨ex, b1, b2, b3, b4, b5⟩ := q_48
  subst ex
  have hlo : (h_4.set 40 (rdC g (upd r4 1 (nI 0)))).length = 95 + 3 * j := by rw [List.length_set, f4.1]; exact hlen
  have old : ∀ k, k < 95 + 3 * j → h_48[k]? = (h_4.set 40 (rdC g (upd r4 1 (nI 0))))[k]? := fun k hk => b2 k (by rw [hlo]; exact hk) (fun z => z)
  have oat : ∀ k c, k < 95 + 3 * j → (h_4.set 40 (rdC g (upd r4 1 (nI 0))))[k]? = some c → h_48[k]? = some c := fun k c hk e => (old k hk).trans e
  refine cx_VL1v (pc := 51) dX6_text_51 lk_X6_264 (oat 1 _ (by omega) (gs_ne (by decide) h14)) rfl (Nat.le_of_ble_eq_true rfl) (Nat.le_of_ble_eq_true rfl) (by omega) (c_R_addText (oat 1 _ (by omega) (gs_ne (by decide) h14)) hn hnt b4 (by omega) ho.1 (oat 3 _ (by omega) (gs_ne (by decide) (f4.at (by unfold rdW; decide) (nscr (by omega)) h3))) (oat 4 _ (by omega) (gs_ne (by decide) (f4.at (by unfold rdW; decide) (nscr (by omega)) h4))) (by omega)) (fun h_51 q_51 => ?_)
  subst q_51
  refine ex_aload_n (pc := 54) dX6_text_54 rfl ?_
  refine ex_get (pc := 55) dX6_text_55 fl_X6_10 (gs_ne (by decide) (gs_ne (by decide) (gs_ne (by decide) (oat 0 _ (by omega) (gs_ne (by decide) hW4))))) rfl ?_
  refine ex_get (pc := 58) dX6_text_58 fl_X6_257 (gs_eq (gs_ne (by decide) (gs_ne (by decide) (oat 1 _ (by omega) (gs_ne (by decide) h14))))) rfl ?_
  rw [upd_eq]
  refine ex_iconst (pc := 61) (v := (nI 1)) dX6_text_61 (by decide) ?_
  refine ex_isub (pc := 62) dX6_text_62 ?_
  rw [nI_sub (by omega), Nat.add_sub_cancel]
  refine ex_ret dX6_text_63 rfl ?_
  refine qi_mk ⟨rfl, ⟨?_, ?_, ?_⟩, ⟨_, ⟨⟨(gs_ne (by omega) (gs_ne (by omega) (gs_ne (by omega) (oat 40 _ (by omega) hA5.1.1)))), (gs_ne (by omega) (gs_ne (by omega) (gs_ne (by omega) (oat 41 _ (by omega) hA5.1.2.1)))), hA5.1.2.2.1, hA5.1.2.2.2⟩, ?_, ?_⟩⟩, gs_eq (gs_ne (by decide) (gs_ne (by decide) (oat 1 _ (by omega) (gs_ne (by decide) h14)))), gs_ne (by decide) (gs_ne (by decide) (gs_eq (oat 3 _ (by omega) (gs_ne (by decide) (f4.at (by unfold rdW; decide) (nscr (by omega)) h3))))), gs_ne (by decide) (gs_eq (gs_ne (by decide) (oat 4 _ (by omega) (gs_ne (by decide) (f4.at (by unfold rdW; decide) (nscr (by omega)) h4))))), ?_, (gs_ne (by omega) (gs_ne (by omega) (gs_ne (by omega) (b4)))), (gs_ne (by omega) (gs_ne (by omega) (gs_ne (by omega) (b5))))⟩
  · rw [List.length_set, List.length_set, List.length_set, b1, List.length_set, f4.1]
  · intro k hk hS hs
    unfold txS at hS
    rw [List.getElem?_set_ne (by omega), List.getElem?_set_ne (by omega), List.getElem?_set_ne (by omega), old k (by omega), List.getElem?_set_ne (by omega)]
    exact f4.2.1 k (by unfold rdW; omega) hs
  · intro k hs m f e
    have hk := (List.getElem?_eq_some_iff.mp e).1
    obtain ⟨f', e'⟩ := f4.2.2 k hs m f e
    unfold scr at hs
    exact ⟨f', (gs_ne (by omega) (gs_ne (by omega) (gs_ne (by omega) (oat k _ (by omega) (gs_ne (by omega) e')))))⟩
  · obtain ⟨-, ⟨fs2, p42⟩, -⟩ := hA5
    exact ⟨fs2, (gs_ne (by omega) (gs_ne (by omega) (gs_ne (by omega) (oat 42 _ (by omega) p42))))⟩
  · obtain ⟨-, -, fo2, p43⟩ := hA5
    exact ⟨fo2, (gs_ne (by omega) (gs_ne (by omega) (gs_ne (by omega) (oat 43 _ (by omega) p43))))⟩
  · obtain ⟨f, e95, ef⟩ := b3
    exact ⟨f, (gs_ne (by omega) (gs_ne (by omega) (gs_ne (by omega) (e95)))), fun k hk => (ef k hk).trans (qst k hk)⟩

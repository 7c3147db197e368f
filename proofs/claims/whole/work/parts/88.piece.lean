/-! the class's reader: a piece -/
def nmL (ky : Nat) : List Nat := if ky = 0 then [116, 115, 104] else if ky = 1 then [99, 117] else [116, 99]
theorem nm_no {ky c : Nat} (hk : ky < 3) (h : isNm ky c = false) : ixL (nmL ky) 0 c = -1 := by
  rcases (show ky = 0 ∨ ky = 1 ∨ ky = 2 by omega) with rfl | rfl | rfl
  · have h' := of_decide_eq_false h
    show ixL [116, 115, 104] 0 c = -1
    rw [ixL, if_neg (by omega), ixL, if_neg (by omega), ixL, if_neg (by omega), ixL]
  · have h' := of_decide_eq_false h
    show ixL [99, 117] 0 c = -1
    rw [ixL, if_neg (by omega), ixL, if_neg (by omega), ixL]
  · have h' := of_decide_eq_false h
    show ixL [116, 99] 0 c = -1
    rw [ixL, if_neg (by omega), ixL, if_neg (by omega), ixL]
theorem nm_ys {ky c : Nat} (hk : ky < 3) (h : isNm ky c = true) : 0 ≤ ixL (nmL ky) 0 c ∧ -1 - ixL (nmL ky) 0 c = encQ ky (1, c) := by
  have key : ∀ ky c : Nat, ky < 3 → c < 128 → isNm ky c = true → 0 ≤ ixL (nmL ky) 0 c ∧ -1 - ixL (nmL ky) 0 c = encQ ky (1, c) := by
    intro ky c hk hc h
    rcases (show ky = 0 ∨ ky = 1 ∨ ky = 2 by omega) with rfl | rfl | rfl
    · rcases of_decide_eq_true h with rfl | rfl | rfl <;> decide
    · rcases of_decide_eq_true h with rfl | rfl <;> decide
    · rcases of_decide_eq_true h with rfl | rfl <;> decide
  refine key ky c hk ?_ h
  unfold isNm at h
  (repeat' split at h) <;> (have := of_decide_eq_true h; omega)
set_option maxHeartbeats 4000000 in
set_option maxRecDepth 100000 in
theorem c_R_tp_t {g : Gl} {d ks : Nat} {h : AH} {r tf : Nat → Int32} {tb : Nat → Nat} {tl ky : Nat} {σ : List Nat} {A : List Stq} {br nt n : Nat} (hC : CfR g h r tf tl ky (σ, true, A, br, nt)) (hI : CfI (σ, true, A, br, nt) (n + 1)) {t : Tkn} (hx : t.2.2.1 < 2) {v : Int32} (hv : v = encQ ky t.2.2) (l1 l3 : Option Value) (hd : 3 ≤ d) : Ex g mX1_takePiece d 0 ks 109 [some (.ref (g.1 + 40)), l1, some (.int v), l3] [] h (qi (tkQ g tf tl ky r (tkP σ A br nt t) h)) := by
  obtain ⟨hS, h7, h8, h9, h10⟩ := hC
  obtain ⟨hl, i33, i40, i8, i9⟩ := hI
  have hl : A.length + σ.length + (n + 1) ≤ 96 := hl
  have h7 : r 7 = nI (lvs A) := h7
  have h8 : r 8 = nI br := h8
  have h9 : r 9 = nI nt := h9
  have h10 : r 10 = 1 := h10
  have hS : RdS g h r tf tl ky σ A := hS
  have i33 : cn 33 σ ≤ nt := i33
  have i40 : br ≤ cn 40 σ := i40
  have i8 : br ≤ 8 := i8
  have i9 : nt ≤ 8 := i9
  refine ex_aload_n (pc := 109) dX1_takePiece_109 rfl ?_
  refine ex_iload_n (pc := 110) dX1_takePiece_110 rfl ?_
  refine cx_VL1v (pc := 111) dX1_takePiece_111 lk_X1_128 hS.1.1 rfl (Nat.le_of_ble_eq_true rfl) (Nat.le_of_ble_eq_true rfl) (by omega) (c_R_addStep hS (x := t.2.2) hv (by omega)) (fun h_111 q_111 => ?_)
  obtain ⟨hS2, f2⟩ := q_111
  refine ex_aload_n (pc := 114) dX1_takePiece_114 rfl ?_
  refine ex_dup (pc := 115) dX1_takePiece_115 rfl ?_
  refine ex_get (pc := 116) dX1_takePiece_116 fl_X1_34 hS2.1.1 rfl ?_
  rw [upd_ne (by decide), h7]
  refine ex_iconst (pc := 119) (v := (nI 1)) dX1_takePiece_119 (by decide) ?_
  refine ex_iadd (pc := 120) dX1_takePiece_120 ?_
  rw [nI_add]
  refine ex_put (pc := 121) dX1_takePiece_121 fp_X1_34 hS2.1.1 (Nat.le_of_ble_eq_true rfl) rfl rfl ?_
  rw [rd_7]
  have hS3 := hS2.s (k := 7) (v := nI (lvs A + 1)) (by omega)
  refine ex_aload_n (pc := 124) dX1_takePiece_124 rfl ?_
  refine cx_VL0v (pc := 125) dX1_takePiece_125 lk_X1_131 hS3.1.1 rfl (Nat.le_of_ble_eq_true rfl) (Nat.le_of_ble_eq_true rfl) (by omega) (c_R_endPiece hS3 (k := nt) (by rw [List.length_append, List.length_singleton]; omega) (by rw [upd_ne (by decide), upd_ne (by decide)]; exact h9) i33 (by omega)) (fun h_125 q_125 => ?_)
  obtain ⟨re, heS, e9, e10, ek, ef⟩ := q_125
  refine ex_iconst (pc := 128) (v := 1) dX1_takePiece_128 (by decide) ?_
  refine ex_zret dX1_takePiece_129 rfl (by first | exact Or.inl rfl | exact Or.inr rfl | exact bI_01 _) ?_
  have eo : tkP σ A br nt t = some ((bng σ (A ++ [t.2.2]) nt).1, false, (bng σ (A ++ [t.2.2]) nt).2.1, br, (bng σ (A ++ [t.2.2]) nt).2.2) := by unfold tkP; rw [if_pos hx]
  have hf := bng_f σ (A ++ [t.2.2]) nt
  refine qi_mk (tkQ.s (r' := re) eo ((f2.tr (FrX.st (Or.inl rfl) (nscr (by omega)))).tr ef) ?_ ?_ ⟨heS, ?_, ?_, e9, e10⟩)
  · rw [ek 11 (by decide) (by decide) (by decide) (by decide), upd_ne (by decide), upd_ne (by decide)]
  · rw [ek 12 (by decide) (by decide) (by decide) (by decide), upd_ne (by decide), upd_ne (by decide)]
  · rw [ek 7 (by decide) (by decide) (by decide) (by decide), upd_eq]
    show nI (lvs A + 1) = nI (lvs (bng σ (A ++ [t.2.2]) nt).2.1)
    rw [hf.2.1, lvs_app, lvs, if_pos hx]
    rfl
  · rw [ek 8 (by decide) (by decide) (by decide) (by decide), upd_ne (by decide), upd_ne (by decide)]; exact h8
set_option maxHeartbeats 4000000 in
set_option maxRecDepth 100000 in
theorem c_R_takePiece {g : Gl} {d ks : Nat} {h : AH} {r tf : Nat → Int32} {tb : Nat → Nat} {tl ky : Nat} {σ : List Nat} {A : List Stq} {br nt n : Nat} (hC : CfR g h r tf tl ky (σ, true, A, br, nt)) (hI : CfI (σ, true, A, br, nt) (n + 1)) {t : Tkn} (hB : TpOk tf tb) (hky : ky < 3) {b : Nat} (hb : b < tl) (h11 : r 11 = nI b) (h12 : r 12 = nI (enT tb tl b)) (htk : tkI tb tl ky b t.2.2) (hd : 5 ≤ d) : Ex g mX1_takePiece d 0 ks 0 [some (.ref (g.1 + 40)), none, none, none] [] h (qi (tkQ g tf tl ky r (tkP σ A br nt t) h)) := by
  have hC0 := hC
  have hI0 := hI
  obtain ⟨hS, h7, h8, h9, h10⟩ := hC
  obtain ⟨hl, i33, i40, i8, i9⟩ := hI
  have hl : A.length + σ.length + (n + 1) ≤ 96 := hl
  have h7 : r 7 = nI (lvs A) := h7
  have h8 : r 8 = nI br := h8
  have h9 : r 9 = nI nt := h9
  have h10 : r 10 = 1 := h10
  have hS : RdS g h r tf tl ky σ A := hS
  have i33 : cn 33 σ ≤ nt := i33
  have i40 : br ≤ cn 40 σ := i40
  have i8 : br ≤ 8 := i8
  have i9 : nt ≤ 8 := i9
  have htl := hS.1.2.2.2
  have hb8 := (hB b).2
  have hen := en_rng (tb := tb) hb
  have h3 := srt_3 tb tl b
  have hz01 : ∀ {o : Option Cfq} {h1 : AH} {x : Int32}, tkQ g tf tl ky r o h h1 x → x = 0 ∨ x = 1 := by
    intro o h1 x q
    obtain ⟨-, r', -, -, a, b⟩ := q
    cases o with
    | none => exact Or.inl (b rfl).1
    | some c => exact Or.inr (a c rfl).1
  rcases htk with ⟨hs, hq⟩ | ⟨hs, hg, he, hnm, hq⟩ | ⟨hs, hw, hq⟩ | ⟨hs, hg, hlen, hq⟩ | ⟨hs, hw, hq⟩
  · have hop := c_R_takeOpening (tb := tb) (d := d - 1) (ks := 0) hC0 hI0 (t := t) (by rw [hq]) (by rw [hq]; exact hb8) (by omega)
    rw [show t.2.2.2 = tb b by rw [hq]] at hop
    refine ex_aload_n (pc := 0) dX1_takePiece_0 rfl ?_
    refine ex_aload_n (pc := 1) dX1_takePiece_1 rfl ?_
    refine ex_get (pc := 2) dX1_takePiece_2 fl_X1_47 hS.1.1 rfl ?_
    rw [h11]
    refine cx_VL1i (pc := 5) dX1_takePiece_5 lk_X1_85 hS.1.1 rfl (Nat.le_of_ble_eq_true rfl) (Nat.le_of_ble_eq_true rfl) (by omega) (c_R_sortAt hS.1 hB (i := b) (by omega) (by omega)) (fun h_5 x_5 q_5 => ?_)
    obtain ⟨e_5, f_5⟩ := q_5
    rw [e_5, f_5]
    refine sx_istore_n (pc := 8) dX1_takePiece_8 rfl (by decide) ?_
    show Ex _ _ _ _ _ _ [_, _, _, _] _ _ _
    refine ex_iload_n (pc := 9) dX1_takePiece_9 rfl ?_
    refine bx_if_ne_f (pc := 10) (tgt := 27) dX1_takePiece_10 (by decide) (by rw [hs]; rfl) ?_
    refine ex_aload_n (pc := 13) dX1_takePiece_13 rfl ?_
    refine ex_aload_n (pc := 14) dX1_takePiece_14 rfl ?_
    refine ex_get (pc := 15) dX1_takePiece_15 fl_X1_9 hS.1.1 rfl ?_
    refine ex_aload_n (pc := 18) dX1_takePiece_18 rfl ?_
    refine ex_get (pc := 19) dX1_takePiece_19 fl_X1_47 hS.1.1 rfl ?_
    rw [h11]
    refine ex_ildn (k := b) (pc := 22) dX1_takePiece_22 hS.1.2.1 rfl (by omega) (by decide) ?_
    rw [(hB b).1]
    refine cx_VL1i (pc := 23) dX1_takePiece_23 lk_X1_111 hS.1.1 rfl (Nat.le_of_ble_eq_true rfl) (Nat.le_of_ble_eq_true rfl) (by omega) (hop) (fun h_23 x_23 q_23 => ?_)
    refine ex_zret dX1_takePiece_26 rfl (hz01 q_23) ?_
    exact qi_mk q_23
  · have hl26 := srt_1.mp hs
    have hnn := nm_ys hky hnm
    rcases (show ky = 0 ∨ ky = 1 ∨ ky = 2 by omega) with rfl | rfl | rfl
    · skip
      refine ex_aload_n (pc := 0) dX1_takePiece_0 rfl ?_
      refine ex_aload_n (pc := 1) dX1_takePiece_1 rfl ?_
      refine ex_get (pc := 2) dX1_takePiece_2 fl_X1_47 hS.1.1 rfl ?_
      rw [h11]
      refine cx_VL1i (pc := 5) dX1_takePiece_5 lk_X1_85 hS.1.1 rfl (Nat.le_of_ble_eq_true rfl) (Nat.le_of_ble_eq_true rfl) (by omega) (c_R_sortAt hS.1 hB (i := b) (by omega) (by omega)) (fun h_5 x_5 q_5 => ?_)
      obtain ⟨e_5, f_5⟩ := q_5
      rw [e_5, f_5]
      refine sx_istore_n (pc := 8) dX1_takePiece_8 rfl (by decide) ?_
      show Ex _ _ _ _ _ _ [_, _, _, _] _ _ _
      refine ex_iload_n (pc := 9) dX1_takePiece_9 rfl ?_
      refine bx_if_ne_t (pc := 10) (tgt := 27) dX1_takePiece_10 (by decide) (by rw [hs]; decide) ?_
      refine ex_aload_n (pc := 27) dX1_takePiece_27 rfl ?_
      refine cx_VL0i (pc := 28) dX1_takePiece_28 lk_X1_115 hS.1.1 rfl (Nat.le_of_ble_eq_true rfl) (Nat.le_of_ble_eq_true rfl) (by omega) (c_R_isGlued hS.1 hB hb h11 (by omega) (by omega)) (fun h_28 x_28 q_28 => ?_)
      obtain ⟨e_28, g1_28, g0_28⟩ := q_28
      rw [e_28, g0_28 hg]
      refine bx_if_eq_t (pc := 31) (tgt := 36) dX1_takePiece_31 (by decide) (rfl) ?_
      refine ex_iload_n (pc := 36) dX1_takePiece_36 rfl ?_
      refine ex_iconst (pc := 37) (v := (nI 1)) dX1_takePiece_37 (by decide) ?_
      refine bx_icmp_ne_f (pc := 38) (tgt := 89) dX1_takePiece_38 (by decide) (by rw [hs]) ?_
      refine ex_aload_n (pc := 41) dX1_takePiece_41 rfl ?_
      refine ex_get (pc := 42) dX1_takePiece_42 fl_X1_50 hS.1.1 rfl ?_
      refine ex_aload_n (pc := 45) dX1_takePiece_45 rfl ?_
      refine ex_get (pc := 46) dX1_takePiece_46 fl_X1_47 hS.1.1 rfl ?_
      rw [h12, h11]
      refine ex_isub (pc := 49) dX1_takePiece_49 ?_
      rw [nI_sub (by omega)]
      refine ex_iconst (pc := 50) (v := (nI 1)) dX1_takePiece_50 (by decide) ?_
      refine bx_icmp_ne_f (pc := 51) (tgt := 74) dX1_takePiece_51 (by decide) (by rw [he, Nat.add_sub_cancel_left]) ?_
      refine ex_aload_n (pc := 54) dX1_takePiece_54 rfl ?_
      refine cx_VL0r (pc := 55) dX1_takePiece_55 lk_X1_118 hS.1.1 rfl (Nat.le_of_ble_eq_true rfl) (Nat.le_of_ble_eq_true rfl) (by omega) (c_R_names0 hS.1.1 hS.2.1) (fun h_55 x_55 q_55 => ?_)
      obtain ⟨e_55, f_55⟩ := q_55
      rw [e_55, f_55]
      refine ex_aload_n (pc := 58) dX1_takePiece_58 rfl ?_
      refine ex_get (pc := 59) dX1_takePiece_59 fl_X1_9 hS.1.1 rfl ?_
      refine ex_aload_n (pc := 62) dX1_takePiece_62 rfl ?_
      refine ex_get (pc := 63) dX1_takePiece_63 fl_X1_47 hS.1.1 rfl ?_
      rw [h11]
      refine ex_ildn (k := b) (pc := 66) dX1_takePiece_66 hS.1.2.1 rfl (by omega) (by decide) ?_
      rw [(hB b).1]
      refine ex_i2c (pc := 67) dX1_takePiece_67 ?_
      rw [i2c_k _ (by omega)]
      refine cx_VS1i (pc := 68) dX1_takePiece_68 lk_X1_122 (by decide) rfl (Nat.le_of_ble_eq_true rfl) (Nat.le_of_ble_eq_true rfl) (by omega) (c_S_ix3 (c := tb b) (by omega) (by omega)) (fun h_68 x_68 q_68 => ?_)
      obtain ⟨e_68, f_68⟩ := q_68
      rw [e_68, f_68]
      refine ex_goto (pc := 71) (tgt := 75) dX1_takePiece_71 (by decide) ?_
      refine sx_istore_n (pc := 75) dX1_takePiece_75 rfl (by decide) ?_
      show Ex _ _ _ _ _ _ [_, _, _, _] _ _ _
      refine ex_iload_n (pc := 76) dX1_takePiece_76 rfl ?_
      refine bx_if_ge_t (pc := 77) (tgt := 82) dX1_takePiece_77 (by decide) (hnn.1) ?_
      refine ex_iconst (pc := 82) (v := (-1)) dX1_takePiece_82 (by decide) ?_
      refine ex_iload_n (pc := 83) dX1_takePiece_83 rfl ?_
      refine ex_isub (pc := 84) dX1_takePiece_84 ?_
      refine sx_istore_n (pc := 85) dX1_takePiece_85 rfl (by decide) ?_
      show Ex _ _ _ _ _ _ [_, _, _, _] _ _ _
      refine ex_goto (pc := 86) (tgt := 109) dX1_takePiece_86 (by decide) ?_
      exact c_R_tp_t (tb := tb) ⟨hS, h7, h8, h9, h10⟩ ⟨hl, i33, i40, i8, i9⟩ (by rw [hq]; exact (by decide : (1 : Nat) < 2)) (by rw [hq]; exact hnn.2) _ _ (by omega)
    · skip
      refine ex_aload_n (pc := 0) dX1_takePiece_0 rfl ?_
      refine ex_aload_n (pc := 1) dX1_takePiece_1 rfl ?_
      refine ex_get (pc := 2) dX1_takePiece_2 fl_X1_47 hS.1.1 rfl ?_
      rw [h11]
      refine cx_VL1i (pc := 5) dX1_takePiece_5 lk_X1_85 hS.1.1 rfl (Nat.le_of_ble_eq_true rfl) (Nat.le_of_ble_eq_true rfl) (by omega) (c_R_sortAt hS.1 hB (i := b) (by omega) (by omega)) (fun h_5 x_5 q_5 => ?_)
      obtain ⟨e_5, f_5⟩ := q_5
      rw [e_5, f_5]
      refine sx_istore_n (pc := 8) dX1_takePiece_8 rfl (by decide) ?_
      show Ex _ _ _ _ _ _ [_, _, _, _] _ _ _
      refine ex_iload_n (pc := 9) dX1_takePiece_9 rfl ?_
      refine bx_if_ne_t (pc := 10) (tgt := 27) dX1_takePiece_10 (by decide) (by rw [hs]; decide) ?_
      refine ex_aload_n (pc := 27) dX1_takePiece_27 rfl ?_
      refine cx_VL0i (pc := 28) dX1_takePiece_28 lk_X1_115 hS.1.1 rfl (Nat.le_of_ble_eq_true rfl) (Nat.le_of_ble_eq_true rfl) (by omega) (c_R_isGlued hS.1 hB hb h11 (by omega) (by omega)) (fun h_28 x_28 q_28 => ?_)
      obtain ⟨e_28, g1_28, g0_28⟩ := q_28
      rw [e_28, g0_28 hg]
      refine bx_if_eq_t (pc := 31) (tgt := 36) dX1_takePiece_31 (by decide) (rfl) ?_
      refine ex_iload_n (pc := 36) dX1_takePiece_36 rfl ?_
      refine ex_iconst (pc := 37) (v := (nI 1)) dX1_takePiece_37 (by decide) ?_
      refine bx_icmp_ne_f (pc := 38) (tgt := 89) dX1_takePiece_38 (by decide) (by rw [hs]) ?_
      refine ex_aload_n (pc := 41) dX1_takePiece_41 rfl ?_
      refine ex_get (pc := 42) dX1_takePiece_42 fl_X1_50 hS.1.1 rfl ?_
      refine ex_aload_n (pc := 45) dX1_takePiece_45 rfl ?_
      refine ex_get (pc := 46) dX1_takePiece_46 fl_X1_47 hS.1.1 rfl ?_
      rw [h12, h11]
      refine ex_isub (pc := 49) dX1_takePiece_49 ?_
      rw [nI_sub (by omega)]
      refine ex_iconst (pc := 50) (v := (nI 1)) dX1_takePiece_50 (by decide) ?_
      refine bx_icmp_ne_f (pc := 51) (tgt := 74) dX1_takePiece_51 (by decide) (by rw [he, Nat.add_sub_cancel_left]) ?_
      refine ex_aload_n (pc := 54) dX1_takePiece_54 rfl ?_
      refine cx_VL0r (pc := 55) dX1_takePiece_55 lk_X1_118 hS.1.1 rfl (Nat.le_of_ble_eq_true rfl) (Nat.le_of_ble_eq_true rfl) (by omega) (c_R_names1 hS.1.1 hS.2.1) (fun h_55 x_55 q_55 => ?_)
      obtain ⟨e_55, f_55⟩ := q_55
      rw [e_55, f_55]
      refine ex_aload_n (pc := 58) dX1_takePiece_58 rfl ?_
      refine ex_get (pc := 59) dX1_takePiece_59 fl_X1_9 hS.1.1 rfl ?_
      refine ex_aload_n (pc := 62) dX1_takePiece_62 rfl ?_
      refine ex_get (pc := 63) dX1_takePiece_63 fl_X1_47 hS.1.1 rfl ?_
      rw [h11]
      refine ex_ildn (k := b) (pc := 66) dX1_takePiece_66 hS.1.2.1 rfl (by omega) (by decide) ?_
      rw [(hB b).1]
      refine ex_i2c (pc := 67) dX1_takePiece_67 ?_
      rw [i2c_k _ (by omega)]
      refine cx_VS1i (pc := 68) dX1_takePiece_68 lk_X1_122 (by decide) rfl (Nat.le_of_ble_eq_true rfl) (Nat.le_of_ble_eq_true rfl) (by omega) (c_S_ix4 (c := tb b) (by omega) (by omega)) (fun h_68 x_68 q_68 => ?_)
      obtain ⟨e_68, f_68⟩ := q_68
      rw [e_68, f_68]
      refine ex_goto (pc := 71) (tgt := 75) dX1_takePiece_71 (by decide) ?_
      refine sx_istore_n (pc := 75) dX1_takePiece_75 rfl (by decide) ?_
      show Ex _ _ _ _ _ _ [_, _, _, _] _ _ _
      refine ex_iload_n (pc := 76) dX1_takePiece_76 rfl ?_
      refine bx_if_ge_t (pc := 77) (tgt := 82) dX1_takePiece_77 (by decide) (hnn.1) ?_
      refine ex_iconst (pc := 82) (v := (-1)) dX1_takePiece_82 (by decide) ?_
      refine ex_iload_n (pc := 83) dX1_takePiece_83 rfl ?_
      refine ex_isub (pc := 84) dX1_takePiece_84 ?_
      refine sx_istore_n (pc := 85) dX1_takePiece_85 rfl (by decide) ?_
      show Ex _ _ _ _ _ _ [_, _, _, _] _ _ _
      refine ex_goto (pc := 86) (tgt := 109) dX1_takePiece_86 (by decide) ?_
      exact c_R_tp_t (tb := tb) ⟨hS, h7, h8, h9, h10⟩ ⟨hl, i33, i40, i8, i9⟩ (by rw [hq]; exact (by decide : (1 : Nat) < 2)) (by rw [hq]; exact hnn.2) _ _ (by omega)
    · skip
      refine ex_aload_n (pc := 0) dX1_takePiece_0 rfl ?_
      refine ex_aload_n (pc := 1) dX1_takePiece_1 rfl ?_
      refine ex_get (pc := 2) dX1_takePiece_2 fl_X1_47 hS.1.1 rfl ?_
      rw [h11]
      refine cx_VL1i (pc := 5) dX1_takePiece_5 lk_X1_85 hS.1.1 rfl (Nat.le_of_ble_eq_true rfl) (Nat.le_of_ble_eq_true rfl) (by omega) (c_R_sortAt hS.1 hB (i := b) (by omega) (by omega)) (fun h_5 x_5 q_5 => ?_)
      obtain ⟨e_5, f_5⟩ := q_5
      rw [e_5, f_5]
      refine sx_istore_n (pc := 8) dX1_takePiece_8 rfl (by decide) ?_
      show Ex _ _ _ _ _ _ [_, _, _, _] _ _ _
      refine ex_iload_n (pc := 9) dX1_takePiece_9 rfl ?_
      refine bx_if_ne_t (pc := 10) (tgt := 27) dX1_takePiece_10 (by decide) (by rw [hs]; decide) ?_
      refine ex_aload_n (pc := 27) dX1_takePiece_27 rfl ?_
      refine cx_VL0i (pc := 28) dX1_takePiece_28 lk_X1_115 hS.1.1 rfl (Nat.le_of_ble_eq_true rfl) (Nat.le_of_ble_eq_true rfl) (by omega) (c_R_isGlued hS.1 hB hb h11 (by omega) (by omega)) (fun h_28 x_28 q_28 => ?_)
      obtain ⟨e_28, g1_28, g0_28⟩ := q_28
      rw [e_28, g0_28 hg]
      refine bx_if_eq_t (pc := 31) (tgt := 36) dX1_takePiece_31 (by decide) (rfl) ?_
      refine ex_iload_n (pc := 36) dX1_takePiece_36 rfl ?_
      refine ex_iconst (pc := 37) (v := (nI 1)) dX1_takePiece_37 (by decide) ?_
      refine bx_icmp_ne_f (pc := 38) (tgt := 89) dX1_takePiece_38 (by decide) (by rw [hs]) ?_
      refine ex_aload_n (pc := 41) dX1_takePiece_41 rfl ?_
      refine ex_get (pc := 42) dX1_takePiece_42 fl_X1_50 hS.1.1 rfl ?_
      refine ex_aload_n (pc := 45) dX1_takePiece_45 rfl ?_
      refine ex_get (pc := 46) dX1_takePiece_46 fl_X1_47 hS.1.1 rfl ?_
      rw [h12, h11]
      refine ex_isub (pc := 49) dX1_takePiece_49 ?_
      rw [nI_sub (by omega)]
      refine ex_iconst (pc := 50) (v := (nI 1)) dX1_takePiece_50 (by decide) ?_
      refine bx_icmp_ne_f (pc := 51) (tgt := 74) dX1_takePiece_51 (by decide) (by rw [he, Nat.add_sub_cancel_left]) ?_
      refine ex_aload_n (pc := 54) dX1_takePiece_54 rfl ?_
      refine cx_VL0r (pc := 55) dX1_takePiece_55 lk_X1_118 hS.1.1 rfl (Nat.le_of_ble_eq_true rfl) (Nat.le_of_ble_eq_true rfl) (by omega) (c_R_names2 hS.1.1 hS.2.1) (fun h_55 x_55 q_55 => ?_)
      obtain ⟨e_55, f_55⟩ := q_55
      rw [e_55, f_55]
      refine ex_aload_n (pc := 58) dX1_takePiece_58 rfl ?_
      refine ex_get (pc := 59) dX1_takePiece_59 fl_X1_9 hS.1.1 rfl ?_
      refine ex_aload_n (pc := 62) dX1_takePiece_62 rfl ?_
      refine ex_get (pc := 63) dX1_takePiece_63 fl_X1_47 hS.1.1 rfl ?_
      rw [h11]
      refine ex_ildn (k := b) (pc := 66) dX1_takePiece_66 hS.1.2.1 rfl (by omega) (by decide) ?_
      rw [(hB b).1]
      refine ex_i2c (pc := 67) dX1_takePiece_67 ?_
      rw [i2c_k _ (by omega)]
      refine cx_VS1i (pc := 68) dX1_takePiece_68 lk_X1_122 (by decide) rfl (Nat.le_of_ble_eq_true rfl) (Nat.le_of_ble_eq_true rfl) (by omega) (c_S_ix5 (c := tb b) (by omega) (by omega)) (fun h_68 x_68 q_68 => ?_)
      obtain ⟨e_68, f_68⟩ := q_68
      rw [e_68, f_68]
      refine ex_goto (pc := 71) (tgt := 75) dX1_takePiece_71 (by decide) ?_
      refine sx_istore_n (pc := 75) dX1_takePiece_75 rfl (by decide) ?_
      show Ex _ _ _ _ _ _ [_, _, _, _] _ _ _
      refine ex_iload_n (pc := 76) dX1_takePiece_76 rfl ?_
      refine bx_if_ge_t (pc := 77) (tgt := 82) dX1_takePiece_77 (by decide) (hnn.1) ?_
      refine ex_iconst (pc := 82) (v := (-1)) dX1_takePiece_82 (by decide) ?_
      refine ex_iload_n (pc := 83) dX1_takePiece_83 rfl ?_
      refine ex_isub (pc := 84) dX1_takePiece_84 ?_
      refine sx_istore_n (pc := 85) dX1_takePiece_85 rfl (by decide) ?_
      show Ex _ _ _ _ _ _ [_, _, _, _] _ _ _
      refine ex_goto (pc := 86) (tgt := 109) dX1_takePiece_86 (by decide) ?_
      exact c_R_tp_t (tb := tb) ⟨hS, h7, h8, h9, h10⟩ ⟨hl, i33, i40, i8, i9⟩ (by rw [hq]; exact (by decide : (1 : Nat) < 2)) (by rw [hq]; exact hnn.2) _ _ (by omega)
  · by_cases hg : glT tb tl b
    · skip
      refine ex_aload_n (pc := 0) dX1_takePiece_0 rfl ?_
      refine ex_aload_n (pc := 1) dX1_takePiece_1 rfl ?_
      refine ex_get (pc := 2) dX1_takePiece_2 fl_X1_47 hS.1.1 rfl ?_
      rw [h11]
      refine cx_VL1i (pc := 5) dX1_takePiece_5 lk_X1_85 hS.1.1 rfl (Nat.le_of_ble_eq_true rfl) (Nat.le_of_ble_eq_true rfl) (by omega) (c_R_sortAt hS.1 hB (i := b) (by omega) (by omega)) (fun h_5 x_5 q_5 => ?_)
      obtain ⟨e_5, f_5⟩ := q_5
      rw [e_5, f_5]
      refine sx_istore_n (pc := 8) dX1_takePiece_8 rfl (by decide) ?_
      show Ex _ _ _ _ _ _ [_, _, _, _] _ _ _
      refine ex_iload_n (pc := 9) dX1_takePiece_9 rfl ?_
      refine bx_if_ne_t (pc := 10) (tgt := 27) dX1_takePiece_10 (by decide) (by rw [hs]; decide) ?_
      refine ex_aload_n (pc := 27) dX1_takePiece_27 rfl ?_
      refine cx_VL0i (pc := 28) dX1_takePiece_28 lk_X1_115 hS.1.1 rfl (Nat.le_of_ble_eq_true rfl) (Nat.le_of_ble_eq_true rfl) (by omega) (c_R_isGlued hS.1 hB hb h11 (by omega) (by omega)) (fun h_28 x_28 q_28 => ?_)
      obtain ⟨e_28, g1_28, g0_28⟩ := q_28
      rw [e_28, g1_28 hg]
      refine bx_if_eq_f (pc := 31) (tgt := 36) dX1_takePiece_31 (by decide) (by decide) ?_
      refine ex_iconst (pc := 34) (v := 0) dX1_takePiece_34 (by decide) ?_
      refine ex_zret dX1_takePiece_35 rfl (by first | exact Or.inl rfl | exact Or.inr rfl | exact bI_01 _) ?_
      have eo : tkP σ A br nt t = none := by unfold tkP; rw [hq, if_neg (by decide), if_neg (fun q => absurd q.1 (by decide)), if_neg (fun q => absurd q.1 (by decide))]
      exact qi_mk (tkQ.n eo FrX.rf rfl rfl hS.a)
    · by_cases he : enT tb tl b = b + 1
      · have hnn := nm_no hky ((hw.resolve_left hg).resolve_left (fun z => z he))
        have hl26 := srt_1.mp hs
        rcases (show ky = 0 ∨ ky = 1 ∨ ky = 2 by omega) with rfl | rfl | rfl
        · skip
          refine ex_aload_n (pc := 0) dX1_takePiece_0 rfl ?_
          refine ex_aload_n (pc := 1) dX1_takePiece_1 rfl ?_
          refine ex_get (pc := 2) dX1_takePiece_2 fl_X1_47 hS.1.1 rfl ?_
          rw [h11]
          refine cx_VL1i (pc := 5) dX1_takePiece_5 lk_X1_85 hS.1.1 rfl (Nat.le_of_ble_eq_true rfl) (Nat.le_of_ble_eq_true rfl) (by omega) (c_R_sortAt hS.1 hB (i := b) (by omega) (by omega)) (fun h_5 x_5 q_5 => ?_)
          obtain ⟨e_5, f_5⟩ := q_5
          rw [e_5, f_5]
          refine sx_istore_n (pc := 8) dX1_takePiece_8 rfl (by decide) ?_
          show Ex _ _ _ _ _ _ [_, _, _, _] _ _ _
          refine ex_iload_n (pc := 9) dX1_takePiece_9 rfl ?_
          refine bx_if_ne_t (pc := 10) (tgt := 27) dX1_takePiece_10 (by decide) (by rw [hs]; decide) ?_
          refine ex_aload_n (pc := 27) dX1_takePiece_27 rfl ?_
          refine cx_VL0i (pc := 28) dX1_takePiece_28 lk_X1_115 hS.1.1 rfl (Nat.le_of_ble_eq_true rfl) (Nat.le_of_ble_eq_true rfl) (by omega) (c_R_isGlued hS.1 hB hb h11 (by omega) (by omega)) (fun h_28 x_28 q_28 => ?_)
          obtain ⟨e_28, g1_28, g0_28⟩ := q_28
          rw [e_28, g0_28 hg]
          refine bx_if_eq_t (pc := 31) (tgt := 36) dX1_takePiece_31 (by decide) (rfl) ?_
          refine ex_iload_n (pc := 36) dX1_takePiece_36 rfl ?_
          refine ex_iconst (pc := 37) (v := (nI 1)) dX1_takePiece_37 (by decide) ?_
          refine bx_icmp_ne_f (pc := 38) (tgt := 89) dX1_takePiece_38 (by decide) (by rw [hs]) ?_
          refine ex_aload_n (pc := 41) dX1_takePiece_41 rfl ?_
          refine ex_get (pc := 42) dX1_takePiece_42 fl_X1_50 hS.1.1 rfl ?_
          refine ex_aload_n (pc := 45) dX1_takePiece_45 rfl ?_
          refine ex_get (pc := 46) dX1_takePiece_46 fl_X1_47 hS.1.1 rfl ?_
          rw [h12, h11]
          refine ex_isub (pc := 49) dX1_takePiece_49 ?_
          rw [nI_sub (by omega)]
          refine ex_iconst (pc := 50) (v := (nI 1)) dX1_takePiece_50 (by decide) ?_
          refine bx_icmp_ne_f (pc := 51) (tgt := 74) dX1_takePiece_51 (by decide) (by rw [he, Nat.add_sub_cancel_left]) ?_
          refine ex_aload_n (pc := 54) dX1_takePiece_54 rfl ?_
          refine cx_VL0r (pc := 55) dX1_takePiece_55 lk_X1_118 hS.1.1 rfl (Nat.le_of_ble_eq_true rfl) (Nat.le_of_ble_eq_true rfl) (by omega) (c_R_names0 hS.1.1 hS.2.1) (fun h_55 x_55 q_55 => ?_)
          obtain ⟨e_55, f_55⟩ := q_55
          rw [e_55, f_55]
          refine ex_aload_n (pc := 58) dX1_takePiece_58 rfl ?_
          refine ex_get (pc := 59) dX1_takePiece_59 fl_X1_9 hS.1.1 rfl ?_
          refine ex_aload_n (pc := 62) dX1_takePiece_62 rfl ?_
          refine ex_get (pc := 63) dX1_takePiece_63 fl_X1_47 hS.1.1 rfl ?_
          rw [h11]
          refine ex_ildn (k := b) (pc := 66) dX1_takePiece_66 hS.1.2.1 rfl (by omega) (by decide) ?_
          rw [(hB b).1]
          refine ex_i2c (pc := 67) dX1_takePiece_67 ?_
          rw [i2c_k _ (by omega)]
          refine cx_VS1i (pc := 68) dX1_takePiece_68 lk_X1_122 (by decide) rfl (Nat.le_of_ble_eq_true rfl) (Nat.le_of_ble_eq_true rfl) (by omega) (c_S_ix3 (c := tb b) (by omega) (by omega)) (fun h_68 x_68 q_68 => ?_)
          obtain ⟨e_68, f_68⟩ := q_68
          rw [e_68, f_68]
          refine ex_goto (pc := 71) (tgt := 75) dX1_takePiece_71 (by decide) ?_
          refine sx_istore_n (pc := 75) dX1_takePiece_75 rfl (by decide) ?_
          show Ex _ _ _ _ _ _ [_, _, _, _] _ _ _
          refine ex_iload_n (pc := 76) dX1_takePiece_76 rfl ?_
          refine bx_if_ge_f (pc := 77) (tgt := 82) dX1_takePiece_77 (by decide) (show ¬ 0 ≤ ixL (nmL 0) 0 (tb b) by rw [hnn]; decide) ?_
          refine ex_iconst (pc := 80) (v := 0) dX1_takePiece_80 (by decide) ?_
          refine ex_zret dX1_takePiece_81 rfl (by first | exact Or.inl rfl | exact Or.inr rfl | exact bI_01 _) ?_
          have eo : tkP σ A br nt t = none := by unfold tkP; rw [hq, if_neg (by decide), if_neg (fun q => absurd q.1 (by decide)), if_neg (fun q => absurd q.1 (by decide))]
          exact qi_mk (tkQ.n eo FrX.rf rfl rfl hS.a)
        · skip
          refine ex_aload_n (pc := 0) dX1_takePiece_0 rfl ?_
          refine ex_aload_n (pc := 1) dX1_takePiece_1 rfl ?_
          refine ex_get (pc := 2) dX1_takePiece_2 fl_X1_47 hS.1.1 rfl ?_
          rw [h11]
          refine cx_VL1i (pc := 5) dX1_takePiece_5 lk_X1_85 hS.1.1 rfl (Nat.le_of_ble_eq_true rfl) (Nat.le_of_ble_eq_true rfl) (by omega) (c_R_sortAt hS.1 hB (i := b) (by omega) (by omega)) (fun h_5 x_5 q_5 => ?_)
          obtain ⟨e_5, f_5⟩ := q_5
          rw [e_5, f_5]
          refine sx_istore_n (pc := 8) dX1_takePiece_8 rfl (by decide) ?_
          show Ex _ _ _ _ _ _ [_, _, _, _] _ _ _
          refine ex_iload_n (pc := 9) dX1_takePiece_9 rfl ?_
          refine bx_if_ne_t (pc := 10) (tgt := 27) dX1_takePiece_10 (by decide) (by rw [hs]; decide) ?_
          refine ex_aload_n (pc := 27) dX1_takePiece_27 rfl ?_
          refine cx_VL0i (pc := 28) dX1_takePiece_28 lk_X1_115 hS.1.1 rfl (Nat.le_of_ble_eq_true rfl) (Nat.le_of_ble_eq_true rfl) (by omega) (c_R_isGlued hS.1 hB hb h11 (by omega) (by omega)) (fun h_28 x_28 q_28 => ?_)
          obtain ⟨e_28, g1_28, g0_28⟩ := q_28
          rw [e_28, g0_28 hg]
          refine bx_if_eq_t (pc := 31) (tgt := 36) dX1_takePiece_31 (by decide) (rfl) ?_
          refine ex_iload_n (pc := 36) dX1_takePiece_36 rfl ?_
          refine ex_iconst (pc := 37) (v := (nI 1)) dX1_takePiece_37 (by decide) ?_
          refine bx_icmp_ne_f (pc := 38) (tgt := 89) dX1_takePiece_38 (by decide) (by rw [hs]) ?_
          refine ex_aload_n (pc := 41) dX1_takePiece_41 rfl ?_
          refine ex_get (pc := 42) dX1_takePiece_42 fl_X1_50 hS.1.1 rfl ?_
          refine ex_aload_n (pc := 45) dX1_takePiece_45 rfl ?_
          refine ex_get (pc := 46) dX1_takePiece_46 fl_X1_47 hS.1.1 rfl ?_
          rw [h12, h11]
          refine ex_isub (pc := 49) dX1_takePiece_49 ?_
          rw [nI_sub (by omega)]
          refine ex_iconst (pc := 50) (v := (nI 1)) dX1_takePiece_50 (by decide) ?_
          refine bx_icmp_ne_f (pc := 51) (tgt := 74) dX1_takePiece_51 (by decide) (by rw [he, Nat.add_sub_cancel_left]) ?_
          refine ex_aload_n (pc := 54) dX1_takePiece_54 rfl ?_
          refine cx_VL0r (pc := 55) dX1_takePiece_55 lk_X1_118 hS.1.1 rfl (Nat.le_of_ble_eq_true rfl) (Nat.le_of_ble_eq_true rfl) (by omega) (c_R_names1 hS.1.1 hS.2.1) (fun h_55 x_55 q_55 => ?_)
          obtain ⟨e_55, f_55⟩ := q_55
          rw [e_55, f_55]
          refine ex_aload_n (pc := 58) dX1_takePiece_58 rfl ?_
          refine ex_get (pc := 59) dX1_takePiece_59 fl_X1_9 hS.1.1 rfl ?_
          refine ex_aload_n (pc := 62) dX1_takePiece_62 rfl ?_
          refine ex_get (pc := 63) dX1_takePiece_63 fl_X1_47 hS.1.1 rfl ?_
          rw [h11]
          refine ex_ildn (k := b) (pc := 66) dX1_takePiece_66 hS.1.2.1 rfl (by omega) (by decide) ?_
          rw [(hB b).1]
          refine ex_i2c (pc := 67) dX1_takePiece_67 ?_
          rw [i2c_k _ (by omega)]
          refine cx_VS1i (pc := 68) dX1_takePiece_68 lk_X1_122 (by decide) rfl (Nat.le_of_ble_eq_true rfl) (Nat.le_of_ble_eq_true rfl) (by omega) (c_S_ix4 (c := tb b) (by omega) (by omega)) (fun h_68 x_68 q_68 => ?_)
          obtain ⟨e_68, f_68⟩ := q_68
          rw [e_68, f_68]
          refine ex_goto (pc := 71) (tgt := 75) dX1_takePiece_71 (by decide) ?_
          refine sx_istore_n (pc := 75) dX1_takePiece_75 rfl (by decide) ?_
          show Ex _ _ _ _ _ _ [_, _, _, _] _ _ _
          refine ex_iload_n (pc := 76) dX1_takePiece_76 rfl ?_
          refine bx_if_ge_f (pc := 77) (tgt := 82) dX1_takePiece_77 (by decide) (show ¬ 0 ≤ ixL (nmL 1) 0 (tb b) by rw [hnn]; decide) ?_
          refine ex_iconst (pc := 80) (v := 0) dX1_takePiece_80 (by decide) ?_
          refine ex_zret dX1_takePiece_81 rfl (by first | exact Or.inl rfl | exact Or.inr rfl | exact bI_01 _) ?_
          have eo : tkP σ A br nt t = none := by unfold tkP; rw [hq, if_neg (by decide), if_neg (fun q => absurd q.1 (by decide)), if_neg (fun q => absurd q.1 (by decide))]
          exact qi_mk (tkQ.n eo FrX.rf rfl rfl hS.a)
        · skip
          refine ex_aload_n (pc := 0) dX1_takePiece_0 rfl ?_
          refine ex_aload_n (pc := 1) dX1_takePiece_1 rfl ?_
          refine ex_get (pc := 2) dX1_takePiece_2 fl_X1_47 hS.1.1 rfl ?_
          rw [h11]
          refine cx_VL1i (pc := 5) dX1_takePiece_5 lk_X1_85 hS.1.1 rfl (Nat.le_of_ble_eq_true rfl) (Nat.le_of_ble_eq_true rfl) (by omega) (c_R_sortAt hS.1 hB (i := b) (by omega) (by omega)) (fun h_5 x_5 q_5 => ?_)
          obtain ⟨e_5, f_5⟩ := q_5
          rw [e_5, f_5]
          refine sx_istore_n (pc := 8) dX1_takePiece_8 rfl (by decide) ?_
          show Ex _ _ _ _ _ _ [_, _, _, _] _ _ _
          refine ex_iload_n (pc := 9) dX1_takePiece_9 rfl ?_
          refine bx_if_ne_t (pc := 10) (tgt := 27) dX1_takePiece_10 (by decide) (by rw [hs]; decide) ?_
          refine ex_aload_n (pc := 27) dX1_takePiece_27 rfl ?_
          refine cx_VL0i (pc := 28) dX1_takePiece_28 lk_X1_115 hS.1.1 rfl (Nat.le_of_ble_eq_true rfl) (Nat.le_of_ble_eq_true rfl) (by omega) (c_R_isGlued hS.1 hB hb h11 (by omega) (by omega)) (fun h_28 x_28 q_28 => ?_)
          obtain ⟨e_28, g1_28, g0_28⟩ := q_28
          rw [e_28, g0_28 hg]
          refine bx_if_eq_t (pc := 31) (tgt := 36) dX1_takePiece_31 (by decide) (rfl) ?_
          refine ex_iload_n (pc := 36) dX1_takePiece_36 rfl ?_
          refine ex_iconst (pc := 37) (v := (nI 1)) dX1_takePiece_37 (by decide) ?_
          refine bx_icmp_ne_f (pc := 38) (tgt := 89) dX1_takePiece_38 (by decide) (by rw [hs]) ?_
          refine ex_aload_n (pc := 41) dX1_takePiece_41 rfl ?_
          refine ex_get (pc := 42) dX1_takePiece_42 fl_X1_50 hS.1.1 rfl ?_
          refine ex_aload_n (pc := 45) dX1_takePiece_45 rfl ?_
          refine ex_get (pc := 46) dX1_takePiece_46 fl_X1_47 hS.1.1 rfl ?_
          rw [h12, h11]
          refine ex_isub (pc := 49) dX1_takePiece_49 ?_
          rw [nI_sub (by omega)]
          refine ex_iconst (pc := 50) (v := (nI 1)) dX1_takePiece_50 (by decide) ?_
          refine bx_icmp_ne_f (pc := 51) (tgt := 74) dX1_takePiece_51 (by decide) (by rw [he, Nat.add_sub_cancel_left]) ?_
          refine ex_aload_n (pc := 54) dX1_takePiece_54 rfl ?_
          refine cx_VL0r (pc := 55) dX1_takePiece_55 lk_X1_118 hS.1.1 rfl (Nat.le_of_ble_eq_true rfl) (Nat.le_of_ble_eq_true rfl) (by omega) (c_R_names2 hS.1.1 hS.2.1) (fun h_55 x_55 q_55 => ?_)
          obtain ⟨e_55, f_55⟩ := q_55
          rw [e_55, f_55]
          refine ex_aload_n (pc := 58) dX1_takePiece_58 rfl ?_
          refine ex_get (pc := 59) dX1_takePiece_59 fl_X1_9 hS.1.1 rfl ?_
          refine ex_aload_n (pc := 62) dX1_takePiece_62 rfl ?_
          refine ex_get (pc := 63) dX1_takePiece_63 fl_X1_47 hS.1.1 rfl ?_
          rw [h11]
          refine ex_ildn (k := b) (pc := 66) dX1_takePiece_66 hS.1.2.1 rfl (by omega) (by decide) ?_
          rw [(hB b).1]
          refine ex_i2c (pc := 67) dX1_takePiece_67 ?_
          rw [i2c_k _ (by omega)]
          refine cx_VS1i (pc := 68) dX1_takePiece_68 lk_X1_122 (by decide) rfl (Nat.le_of_ble_eq_true rfl) (Nat.le_of_ble_eq_true rfl) (by omega) (c_S_ix5 (c := tb b) (by omega) (by omega)) (fun h_68 x_68 q_68 => ?_)
          obtain ⟨e_68, f_68⟩ := q_68
          rw [e_68, f_68]
          refine ex_goto (pc := 71) (tgt := 75) dX1_takePiece_71 (by decide) ?_
          refine sx_istore_n (pc := 75) dX1_takePiece_75 rfl (by decide) ?_
          show Ex _ _ _ _ _ _ [_, _, _, _] _ _ _
          refine ex_iload_n (pc := 76) dX1_takePiece_76 rfl ?_
          refine bx_if_ge_f (pc := 77) (tgt := 82) dX1_takePiece_77 (by decide) (show ¬ 0 ≤ ixL (nmL 2) 0 (tb b) by rw [hnn]; decide) ?_
          refine ex_iconst (pc := 80) (v := 0) dX1_takePiece_80 (by decide) ?_
          refine ex_zret dX1_takePiece_81 rfl (by first | exact Or.inl rfl | exact Or.inr rfl | exact bI_01 _) ?_
          have eo : tkP σ A br nt t = none := by unfold tkP; rw [hq, if_neg (by decide), if_neg (fun q => absurd q.1 (by decide)), if_neg (fun q => absurd q.1 (by decide))]
          exact qi_mk (tkQ.n eo FrX.rf rfl rfl hS.a)
      · skip
        refine ex_aload_n (pc := 0) dX1_takePiece_0 rfl ?_
        refine ex_aload_n (pc := 1) dX1_takePiece_1 rfl ?_
        refine ex_get (pc := 2) dX1_takePiece_2 fl_X1_47 hS.1.1 rfl ?_
        rw [h11]
        refine cx_VL1i (pc := 5) dX1_takePiece_5 lk_X1_85 hS.1.1 rfl (Nat.le_of_ble_eq_true rfl) (Nat.le_of_ble_eq_true rfl) (by omega) (c_R_sortAt hS.1 hB (i := b) (by omega) (by omega)) (fun h_5 x_5 q_5 => ?_)
        obtain ⟨e_5, f_5⟩ := q_5
        rw [e_5, f_5]
        refine sx_istore_n (pc := 8) dX1_takePiece_8 rfl (by decide) ?_
        show Ex _ _ _ _ _ _ [_, _, _, _] _ _ _
        refine ex_iload_n (pc := 9) dX1_takePiece_9 rfl ?_
        refine bx_if_ne_t (pc := 10) (tgt := 27) dX1_takePiece_10 (by decide) (by rw [hs]; decide) ?_
        refine ex_aload_n (pc := 27) dX1_takePiece_27 rfl ?_
        refine cx_VL0i (pc := 28) dX1_takePiece_28 lk_X1_115 hS.1.1 rfl (Nat.le_of_ble_eq_true rfl) (Nat.le_of_ble_eq_true rfl) (by omega) (c_R_isGlued hS.1 hB hb h11 (by omega) (by omega)) (fun h_28 x_28 q_28 => ?_)
        obtain ⟨e_28, g1_28, g0_28⟩ := q_28
        rw [e_28, g0_28 hg]
        refine bx_if_eq_t (pc := 31) (tgt := 36) dX1_takePiece_31 (by decide) (rfl) ?_
        refine ex_iload_n (pc := 36) dX1_takePiece_36 rfl ?_
        refine ex_iconst (pc := 37) (v := (nI 1)) dX1_takePiece_37 (by decide) ?_
        refine bx_icmp_ne_f (pc := 38) (tgt := 89) dX1_takePiece_38 (by decide) (by rw [hs]) ?_
        refine ex_aload_n (pc := 41) dX1_takePiece_41 rfl ?_
        refine ex_get (pc := 42) dX1_takePiece_42 fl_X1_50 hS.1.1 rfl ?_
        refine ex_aload_n (pc := 45) dX1_takePiece_45 rfl ?_
        refine ex_get (pc := 46) dX1_takePiece_46 fl_X1_47 hS.1.1 rfl ?_
        rw [h12, h11]
        refine ex_isub (pc := 49) dX1_takePiece_49 ?_
        rw [nI_sub (by omega)]
        refine ex_iconst (pc := 50) (v := (nI 1)) dX1_takePiece_50 (by decide) ?_
        refine bx_icmp_ne_t (pc := 51) (tgt := 74) dX1_takePiece_51 (by decide) (fun q => he ((nI_eq (by omega) (by omega)).mp q |> fun y => by omega)) ?_
        refine ex_iconst (pc := 74) (v := (-1)) dX1_takePiece_74 (by decide) ?_
        refine sx_istore_n (pc := 75) dX1_takePiece_75 rfl (by decide) ?_
        show Ex _ _ _ _ _ _ [_, _, _, _] _ _ _
        refine ex_iload_n (pc := 76) dX1_takePiece_76 rfl ?_
        refine bx_if_ge_f (pc := 77) (tgt := 82) dX1_takePiece_77 (by decide) (by decide) ?_
        refine ex_iconst (pc := 80) (v := 0) dX1_takePiece_80 (by decide) ?_
        refine ex_zret dX1_takePiece_81 rfl (by first | exact Or.inl rfl | exact Or.inr rfl | exact bI_01 _) ?_
        have eo : tkP σ A br nt t = none := by unfold tkP; rw [hq, if_neg (by decide), if_neg (fun q => absurd q.1 (by decide)), if_neg (fun q => absurd q.1 (by decide))]
        exact qi_mk (tkQ.n eo FrX.rf rfl rfl hS.a)
  · have hdg : ∀ i, i < enT tb tl b - b → 48 ≤ tb (b + i) := by
      intro i hi
      have hrr := rnE_rng (tb := tb) (tl := tl) (s := srt tb tl b) (tl - (b + 1)) (b + 1)
      have hs2 : srt tb tl (b + i) = 2 := by
        by_cases i0 : i = 0
        · rw [i0]; exact hs
        · rw [← hs]
          refine hrr.2.2 (b + i) (by omega) ?_
          have : enT tb tl b = rnE tb tl (srt tb tl b) (tl - (b + 1)) (b + 1) := if_neg (by omega)
          omega
      exact (srt_2.mp hs2).2.1
    · skip
      refine ex_aload_n (pc := 0) dX1_takePiece_0 rfl ?_
      refine ex_aload_n (pc := 1) dX1_takePiece_1 rfl ?_
      refine ex_get (pc := 2) dX1_takePiece_2 fl_X1_47 hS.1.1 rfl ?_
      rw [h11]
      refine cx_VL1i (pc := 5) dX1_takePiece_5 lk_X1_85 hS.1.1 rfl (Nat.le_of_ble_eq_true rfl) (Nat.le_of_ble_eq_true rfl) (by omega) (c_R_sortAt hS.1 hB (i := b) (by omega) (by omega)) (fun h_5 x_5 q_5 => ?_)
      obtain ⟨e_5, f_5⟩ := q_5
      rw [e_5, f_5]
      refine sx_istore_n (pc := 8) dX1_takePiece_8 rfl (by decide) ?_
      show Ex _ _ _ _ _ _ [_, _, _, _] _ _ _
      refine ex_iload_n (pc := 9) dX1_takePiece_9 rfl ?_
      refine bx_if_ne_t (pc := 10) (tgt := 27) dX1_takePiece_10 (by decide) (by rw [hs]; decide) ?_
      refine ex_aload_n (pc := 27) dX1_takePiece_27 rfl ?_
      refine cx_VL0i (pc := 28) dX1_takePiece_28 lk_X1_115 hS.1.1 rfl (Nat.le_of_ble_eq_true rfl) (Nat.le_of_ble_eq_true rfl) (by omega) (c_R_isGlued hS.1 hB hb h11 (by omega) (by omega)) (fun h_28 x_28 q_28 => ?_)
      obtain ⟨e_28, g1_28, g0_28⟩ := q_28
      rw [e_28, g0_28 hg]
      refine bx_if_eq_t (pc := 31) (tgt := 36) dX1_takePiece_31 (by decide) (rfl) ?_
      refine ex_iload_n (pc := 36) dX1_takePiece_36 rfl ?_
      refine ex_iconst (pc := 37) (v := (nI 1)) dX1_takePiece_37 (by decide) ?_
      refine bx_icmp_ne_t (pc := 38) (tgt := 89) dX1_takePiece_38 (by decide) (by rw [hs]; decide) ?_
      refine ex_aload_n (pc := 89) dX1_takePiece_89 rfl ?_
      refine ex_get (pc := 90) dX1_takePiece_90 fl_X1_50 hS.1.1 rfl ?_
      refine ex_aload_n (pc := 93) dX1_takePiece_93 rfl ?_
      refine ex_get (pc := 94) dX1_takePiece_94 fl_X1_47 hS.1.1 rfl ?_
      refine ex_isub (pc := 97) dX1_takePiece_97 ?_
      refine ex_iconst (pc := 98) (v := (nI 4)) dX1_takePiece_98 (by decide) ?_
      refine bx_icmp_le_t (pc := 99) (tgt := 104) dX1_takePiece_99 (by decide) (by rw [h12, h11, nI_sub (by omega)]; exact nI_le hlen (by omega)) ?_
      refine ex_aload_n (pc := 104) dX1_takePiece_104 rfl ?_
      refine cx_VL0i (pc := 105) dX1_takePiece_105 lk_X1_125 hS.1.1 rfl (Nat.le_of_ble_eq_true rfl) (Nat.le_of_ble_eq_true rfl) (by omega) (c_R_numberHere hS.1 hB h11 h12 (by omega) (by omega) hdg) (fun h_105 x_105 q_105 => ?_)
      obtain ⟨e_105, f_105⟩ := q_105
      rw [e_105, f_105]
      refine sx_istore_n (pc := 108) dX1_takePiece_108 rfl (by decide) ?_
      show Ex _ _ _ _ _ _ [_, _, _, _] _ _ _
      exact c_R_tp_t (tb := tb) ⟨hS, h7, h8, h9, h10⟩ ⟨hl, i33, i40, i8, i9⟩ (by rw [hq]; exact (by decide : (0 : Nat) < 2)) (by rw [hq]; rfl) _ _ (by omega)
  · by_cases hg : glT tb tl b
    · skip
      refine ex_aload_n (pc := 0) dX1_takePiece_0 rfl ?_
      refine ex_aload_n (pc := 1) dX1_takePiece_1 rfl ?_
      refine ex_get (pc := 2) dX1_takePiece_2 fl_X1_47 hS.1.1 rfl ?_
      rw [h11]
      refine cx_VL1i (pc := 5) dX1_takePiece_5 lk_X1_85 hS.1.1 rfl (Nat.le_of_ble_eq_true rfl) (Nat.le_of_ble_eq_true rfl) (by omega) (c_R_sortAt hS.1 hB (i := b) (by omega) (by omega)) (fun h_5 x_5 q_5 => ?_)
      obtain ⟨e_5, f_5⟩ := q_5
      rw [e_5, f_5]
      refine sx_istore_n (pc := 8) dX1_takePiece_8 rfl (by decide) ?_
      show Ex _ _ _ _ _ _ [_, _, _, _] _ _ _
      refine ex_iload_n (pc := 9) dX1_takePiece_9 rfl ?_
      refine bx_if_ne_t (pc := 10) (tgt := 27) dX1_takePiece_10 (by decide) (by rw [hs]; decide) ?_
      refine ex_aload_n (pc := 27) dX1_takePiece_27 rfl ?_
      refine cx_VL0i (pc := 28) dX1_takePiece_28 lk_X1_115 hS.1.1 rfl (Nat.le_of_ble_eq_true rfl) (Nat.le_of_ble_eq_true rfl) (by omega) (c_R_isGlued hS.1 hB hb h11 (by omega) (by omega)) (fun h_28 x_28 q_28 => ?_)
      obtain ⟨e_28, g1_28, g0_28⟩ := q_28
      rw [e_28, g1_28 hg]
      refine bx_if_eq_f (pc := 31) (tgt := 36) dX1_takePiece_31 (by decide) (by decide) ?_
      refine ex_iconst (pc := 34) (v := 0) dX1_takePiece_34 (by decide) ?_
      refine ex_zret dX1_takePiece_35 rfl (by first | exact Or.inl rfl | exact Or.inr rfl | exact bI_01 _) ?_
      have eo : tkP σ A br nt t = none := by unfold tkP; rw [hq, if_neg (by decide), if_neg (fun q => absurd q.1 (by decide)), if_neg (fun q => absurd q.1 (by decide))]
      exact qi_mk (tkQ.n eo FrX.rf rfl rfl hS.a)
    · have hlen := hw.resolve_left hg
      · skip
        refine ex_aload_n (pc := 0) dX1_takePiece_0 rfl ?_
        refine ex_aload_n (pc := 1) dX1_takePiece_1 rfl ?_
        refine ex_get (pc := 2) dX1_takePiece_2 fl_X1_47 hS.1.1 rfl ?_
        rw [h11]
        refine cx_VL1i (pc := 5) dX1_takePiece_5 lk_X1_85 hS.1.1 rfl (Nat.le_of_ble_eq_true rfl) (Nat.le_of_ble_eq_true rfl) (by omega) (c_R_sortAt hS.1 hB (i := b) (by omega) (by omega)) (fun h_5 x_5 q_5 => ?_)
        obtain ⟨e_5, f_5⟩ := q_5
        rw [e_5, f_5]
        refine sx_istore_n (pc := 8) dX1_takePiece_8 rfl (by decide) ?_
        show Ex _ _ _ _ _ _ [_, _, _, _] _ _ _
        refine ex_iload_n (pc := 9) dX1_takePiece_9 rfl ?_
        refine bx_if_ne_t (pc := 10) (tgt := 27) dX1_takePiece_10 (by decide) (by rw [hs]; decide) ?_
        refine ex_aload_n (pc := 27) dX1_takePiece_27 rfl ?_
        refine cx_VL0i (pc := 28) dX1_takePiece_28 lk_X1_115 hS.1.1 rfl (Nat.le_of_ble_eq_true rfl) (Nat.le_of_ble_eq_true rfl) (by omega) (c_R_isGlued hS.1 hB hb h11 (by omega) (by omega)) (fun h_28 x_28 q_28 => ?_)
        obtain ⟨e_28, g1_28, g0_28⟩ := q_28
        rw [e_28, g0_28 hg]
        refine bx_if_eq_t (pc := 31) (tgt := 36) dX1_takePiece_31 (by decide) (rfl) ?_
        refine ex_iload_n (pc := 36) dX1_takePiece_36 rfl ?_
        refine ex_iconst (pc := 37) (v := (nI 1)) dX1_takePiece_37 (by decide) ?_
        refine bx_icmp_ne_t (pc := 38) (tgt := 89) dX1_takePiece_38 (by decide) (by rw [hs]; decide) ?_
        refine ex_aload_n (pc := 89) dX1_takePiece_89 rfl ?_
        refine ex_get (pc := 90) dX1_takePiece_90 fl_X1_50 hS.1.1 rfl ?_
        refine ex_aload_n (pc := 93) dX1_takePiece_93 rfl ?_
        refine ex_get (pc := 94) dX1_takePiece_94 fl_X1_47 hS.1.1 rfl ?_
        refine ex_isub (pc := 97) dX1_takePiece_97 ?_
        refine ex_iconst (pc := 98) (v := (nI 4)) dX1_takePiece_98 (by decide) ?_
        refine bx_icmp_le_f (pc := 99) (tgt := 104) dX1_takePiece_99 (by decide) (by rw [h12, h11, nI_sub (by omega)]; exact fun q => hlen ((nI_leI (by omega) (by omega)).mp q)) ?_
        refine ex_iconst (pc := 102) (v := 0) dX1_takePiece_102 (by decide) ?_
        refine ex_zret dX1_takePiece_103 rfl (by first | exact Or.inl rfl | exact Or.inr rfl | exact bI_01 _) ?_
        have eo : tkP σ A br nt t = none := by unfold tkP; rw [hq, if_neg (by decide), if_neg (fun q => absurd q.1 (by decide)), if_neg (fun q => absurd q.1 (by decide))]
        exact qi_mk (tkQ.n eo FrX.rf rfl rfl hS.a)

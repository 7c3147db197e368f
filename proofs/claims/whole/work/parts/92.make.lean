/-! the class makes a text and adds it -/
theorem ap_l {h l : AH} {k : Nat} {c : va_E} (e : h[k]? = some c) : (h ++ l)[k]? = some c := by
  rw [List.getElem?_append_left (List.getElem?_eq_some_iff.mp e).1]
  exact e
theorem ap_e {h : AH} {c : va_E} {n : Nat} (e : h.length = n) : (h ++ [c])[n]? = some c := by
  rw [← e]
  simp
theorem mx_0 {n : Nat} (h : n < 2147483648) : mx32 (nI n) (nI 0) = nI n := by
  unfold mx32
  rw [if_neg (fun q => absurd ((nI_ltI h (by omega)).mp q) (by omega))]
/-- all old cells stand -/
def Old (S : Nat → Prop) (h h' : AH) : Prop := ∀ k, k < h.length → ¬ S k → h'[k]? = h[k]?
theorem ap_o {h l : AH} {k : Nat} (hk : k < h.length) : (h ++ l)[k]? = h[k]? := List.getElem?_append_left hk
set_option maxHeartbeats 4000000 in
set_option maxRecDepth 100000 in
theorem c_T_init {g : Gl} {d q ky lv a : Nat} {h : AH} (hq : h[q]? = some (ob 5 [.int 0, .int 0, .null, .null])) (hlv : lv ≤ 96) (hd : 1 ≤ d) : Ex g mX5_init d (1 + 0) (lv + 0) 0 [some (.ref (g.1 + q)), some (.int (nI ky)), some (.int (nI lv)), some (.ref a)] [] h (qv (fun h' => h'.length = h.length + 1 ∧ h'[q]? = some (ob 5 [.int (nI ky), .int (nI lv), .ref a, .ref (g.1 + h.length)]) ∧ h'[h.length]? = some (ia g lv (fun _ => 0)) ∧ Old (fun k => k = q) h h')) := by
  have hql := (List.getElem?_eq_some_iff.mp hq).1
  refine ex_aload_n (pc := 0) dX5_init_0 rfl ?_
  refine ex_objInit (pc := 1) dX5_init_1 lk_X5_1 gw_oi gw_oc (by decide) (by omega) ?_
  refine ex_aload_n (pc := 4) dX5_init_4 rfl ?_
  refine ex_iload_n (pc := 5) dX5_init_5 rfl ?_
  refine ex_putF (pc := 6) dX5_init_6 fp_X5_7 rfl hq (Nat.le_of_ble_eq_true rfl) rfl rfl ?_
  refine ex_aload_n (pc := 9) dX5_init_9 rfl ?_
  refine ex_iload_n (pc := 10) dX5_init_10 rfl ?_
  refine ex_putF (pc := 11) dX5_init_11 fp_X5_13 rfl (gs_eq hq) (Nat.le_of_ble_eq_true rfl) rfl rfl ?_
  refine ex_aload_n (pc := 14) dX5_init_14 rfl ?_
  refine ex_aload_n (pc := 15) dX5_init_15 rfl ?_
  refine ex_putF (pc := 16) dX5_init_16 fp_X5_16 rfl (gs_eq (gs_eq hq)) (Nat.le_of_ble_eq_true rfl) rfl rfl ?_
  refine ex_aload_n (pc := 19) dX5_init_19 rfl ?_
  refine ex_iload_n (pc := 20) dX5_init_20 rfl ?_
  refine ex_iconst (pc := 21) (v := (nI 0)) dX5_init_21 (by decide) ?_
  refine cx_SL2i (pc := 22) dX5_init_22 lk_X5_20 rfl (Nat.le_of_ble_eq_true rfl) (Nat.le_of_ble_eq_true rfl) (by omega) (c_max _ _) (fun h_22 x_22 q_22 => ?_)
  obtain ⟨e_22, f_22⟩ := q_22
  rw [e_22, f_22]
  rw [mx_0 (by omega)]
  refine ex_newi (pc := 25) dX5_init_25 (Int32.not_lt.mpr (nI_pos' (by omega))) (iK (by omega)) (by omega) gw_ai ?_
  rw [List.length_set, List.length_set, List.length_set]
  refine ex_putF (pc := 27) dX5_init_27 fp_X5_26 rfl (ap_l (gs_eq (gs_eq (gs_eq hq)))) (Nat.le_of_ble_eq_true rfl) rfl rfl ?_
  refine ex_vret dX5_init_30 rfl ?_
  refine qv_mk ⟨?_, gs_eq (ap_l (gs_eq (gs_eq (gs_eq hq)))), ?_, fun k hk hn => ?_⟩
  · rw [List.length_set, List.length_append, List.length_set, List.length_set, List.length_set]; rfl
  · exact gs_ne (by omega) (ap_e (by rw [List.length_set, List.length_set, List.length_set]))
  · have hn : ¬ k = q := hn
    rw [List.getElem?_set_ne (fun z => hn z.symm), ap_o (by rw [List.length_set, List.length_set, List.length_set]; exact hk), List.getElem?_set_ne (fun z => hn z.symm), List.getElem?_set_ne (fun z => hn z.symm), List.getElem?_set_ne (fun z => hn z.symm)]
set_option maxHeartbeats 4000000 in
set_option maxRecDepth 100000 in
theorem c_R_makeText {g : Gl} {d tl L ky lv j : Nat} {h : AH} {r tf fs : Nat → Int32} (hT : RdT g h r tf tl) (h42 : h[42]? = some (ia g 96 fs)) (h3 : r 3 = nI L) (h6 : r 6 = nI ky) (h7 : r 7 = nI lv) (hL : L ≤ 96) (hlv : lv ≤ 96) (hlen : h.length = 95 + 3 * j) (hd : 2 ≤ d) : Ex g mX1_makeText d (1 + (1 + (1 + 0 + 0))) (L + (4 + (lv + 0 + 0))) 0 [some (.ref (g.1 + 40)), none] [] h (qr (fun h' x => x = .ref (g.1 + (96 + 3 * j)) ∧ h'.length = h.length + 3 ∧ Old (fun _ => False) h h' ∧ (∃ f, h'[95 + 3 * j]? = some (ia g L f) ∧ ∀ k, k < L → f k = fs k) ∧ h'[96 + 3 * j]? = some (ob 5 [.int (nI ky), .int (nI lv), .ref (g.1 + (95 + 3 * j)), .ref (g.1 + (97 + 3 * j))]) ∧ h'[97 + 3 * j]? = some (ia g lv (fun _ => 0)))) := by
  refine ex_aload_n (pc := 0) dX1_makeText_0 rfl ?_
  refine ex_get (pc := 1) dX1_makeText_1 fl_X1_22 hT.1 rfl ?_
  rw [h3]
  refine ex_newi (pc := 4) dX1_makeText_4 (Int32.not_lt.mpr (nI_pos' (by omega))) (iK (by omega)) (by omega) gw_ai ?_
  rw [hlen]
  refine sx_astore_n (pc := 6) dX1_makeText_6 rfl (by decide) ?_
  show Ex _ _ _ _ _ _ [_, _] _ _ _
  refine ex_aload_n (pc := 7) dX1_makeText_7 rfl ?_
  refine ex_get (pc := 8) dX1_makeText_8 fl_X1_19 (ap_l hT.1) rfl ?_
  refine ex_iconst (pc := 11) (v := (nI 0)) dX1_makeText_11 (by decide) ?_
  refine ex_aload_n (pc := 12) dX1_makeText_12 rfl ?_
  refine ex_iconst (pc := 13) (v := (nI 0)) dX1_makeText_13 (by decide) ?_
  refine ex_aload_n (pc := 14) dX1_makeText_14 rfl ?_
  refine ex_get (pc := 15) dX1_makeText_15 fl_X1_22 (ap_l hT.1) rfl ?_
  rw [h3]
  refine ex_copy (pc := 18) dX1_makeText_18 lk_X1_53 gw_cn gw_cs gw_ci (ap_l h42) (ap_e hlen) (by decide) (by decide) (Int32.not_lt.mpr (nI_pos' (by omega))) (by rw [iK (by omega), iK (by omega)]; omega) (by rw [iK (by omega), iK (by omega)]; omega) (by decide) (by omega) nf_ok ?_
  rw [show (nI 0).toNatClampNeg = 0 by decide, iK (show L < 2147483648 by omega)]
  refine ex_new (pc := 21) dX1_makeText_21 nw_X1_59 ?_
  have hl2 : ((h ++ [ia g L (fun _ => 0)]).set (95 + 3 * j) (ia g L (va_cpy fs (fun _ => 0) 0 0 L))).length = 96 + 3 * j := by rw [List.length_set, List.length_append, hlen]; show 95 + 3 * j + 1 = 96 + 3 * j; omega
  rw [hl2]
  refine ex_dup (pc := 24) dX1_makeText_24 rfl ?_
  refine ex_aload_n (pc := 25) dX1_makeText_25 rfl ?_
  refine ex_get (pc := 26) dX1_makeText_26 fl_X1_31 (ap_l (gs_ne (by omega) (ap_l hT.1))) rfl ?_
  rw [h6]
  refine ex_aload_n (pc := 29) dX1_makeText_29 rfl ?_
  refine ex_get (pc := 30) dX1_makeText_30 fl_X1_34 (ap_l (gs_ne (by omega) (ap_l hT.1))) rfl ?_
  rw [h7]
  refine ex_aload_n (pc := 33) dX1_makeText_33 rfl ?_
  refine cx_IL3vA (pc := 34) (kc' := 1 + 0) (ks' := lv + 0) dX1_makeText_34 lk_X1_61 rfl (Nat.le_of_ble_eq_true rfl) (Nat.le_of_ble_eq_true rfl) (by omega) (c_T_init (ap_e hl2) hlv (by omega)) (fun h_34 q_34 => ?_)
  intro l_34
  obtain ⟨a1, a2, a3, a4⟩ := q_34
  refine ex_aret dX1_makeText_37 rfl (Or.inr ⟨_, rfl⟩) ?_
  have hl3 : (((h ++ [ia g L (fun _ => 0)]).set (95 + 3 * j) (ia g L (va_cpy fs (fun _ => 0) 0 0 L))) ++ [ob 5 [Value.int 0, .int 0, .null, .null]]).length = 97 + 3 * j := by rw [List.length_append, hl2]; show 96 + 3 * j + 1 = 97 + 3 * j; omega
  rw [hl3] at a1 a2 a3
  have old : ∀ k, k < 97 + 3 * j → ¬ k = 96 + 3 * j → h_34[k]? = ((h ++ [ia g L (fun _ => 0)]).set (95 + 3 * j) (ia g L (va_cpy fs (fun _ => 0) 0 0 L)))[k]? := fun k hk hn => (a4 k (by rw [hl3]; exact hk) hn).trans (ap_o (by rw [hl2]; omega))
  refine qr_mk ⟨rfl, by rw [a1]; omega, fun k hk _ => ?_, ⟨_, (old _ (by omega) (by omega)).trans (gs_eq (ap_e hlen)), fun k hk => ?_⟩, a2, a3⟩
  · rw [old k (by omega) (by omega), List.getElem?_set_ne (by omega), ap_o hk]
  · unfold va_cpy
    rw [if_pos (by omega), Nat.zero_add, Nat.sub_zero]
set_option maxHeartbeats 4000000 in
set_option maxRecDepth 100000 in
theorem c_R_addText {g : Gl} {d ks : Nat} {h : AH} {s : Nat → Int32} {w : Int64} {nt ky q : Nat} {ft : Nat → Option Nat} {fl : Nat → Int32} {vs : List Value} (h1 : h[1]? = some (rmC g 1 s w)) (hn : s 1 = nI nt) (hnt : nt < 14) (hq : h[q]? = some (ob 5 (.int (nI ky) :: vs))) (hq5 : 5 ≤ q) (hky : ky < 3) (h3 : h[3]? = some (ra g 3 14 ft)) (h4 : h[4]? = some (ia g 3 fl)) (hd : 1 ≤ d) : Ex g mX2_addText d 0 ks 0 [some (.ref (g.1 + 1)), some (.ref (g.1 + q))] [] h (qv (fun h' => h' = ((h.set 3 (ra g 3 14 (va_up ft nt (some (g.1 + q))))).set 4 (ia g 3 (upd fl ky (nI nt)))).set 1 (rmC g 1 (upd s 1 (nI (nt + 1))) w))) := by
  refine ex_aload_n (pc := 0) dX2_addText_0 rfl ?_
  refine ex_get (pc := 1) dX2_addText_1 fl_X2_52 h1 rfl ?_
  refine ex_bipush (pc := 4) (v := (nI 14)) dX2_addText_4 (by decide) ?_
  refine bx_icmp_ge_f (pc := 6) (tgt := 53) dX2_addText_6 (by decide) (by rw [hn]; exact nI_ge hnt (by omega)) ?_
  refine ex_aload_n (pc := 9) dX2_addText_9 rfl ?_
  refine ex_get (pc := 10) dX2_addText_10 fl_X2_180 hq rfl ?_
  refine ex_iconst (pc := 13) (v := (nI 3)) dX2_addText_13 (by decide) ?_
  refine cx_SN2i (pc := 14) dX2_addText_14 lk_X2_171 rfl (Nat.le_of_ble_eq_true rfl) (Nat.le_of_ble_eq_true rfl) (by omega) (c_ib _ 3) (fun h_14 x_14 q_14 => ?_)
  obtain ⟨e_14, f_14⟩ := q_14
  rw [e_14, f_14]
  refine bx_if_eq_f (pc := 17) (tgt := 53) dX2_addText_17 (by decide) (by rw [bI_t (bw_t hky)]; decide) ?_
  refine ex_aload_n (pc := 20) dX2_addText_20 rfl ?_
  refine ex_get (pc := 21) dX2_addText_21 fl_X2_48 h1 rfl ?_
  refine ex_aload_n (pc := 24) dX2_addText_24 rfl ?_
  refine ex_get (pc := 25) dX2_addText_25 fl_X2_52 h1 rfl ?_
  rw [hn]
  refine ex_aload_n (pc := 28) dX2_addText_28 rfl ?_
  refine ex_astn (k := nt) (t := 3) (ci := 5) (pc := 29) dX2_addText_29 rfl rfl h3 hq rfl hnt (by decide) ?_
  refine ex_aload_n (pc := 30) dX2_addText_30 rfl ?_
  refine ex_get (pc := 31) dX2_addText_31 fl_X2_55 (gs_ne (by decide) h1) rfl ?_
  refine ex_aload_n (pc := 34) dX2_addText_34 rfl ?_
  refine ex_get (pc := 35) dX2_addText_35 fl_X2_180 (gs_ne (by omega) hq) rfl ?_
  refine ex_aload_n (pc := 38) dX2_addText_38 rfl ?_
  refine ex_get (pc := 39) dX2_addText_39 fl_X2_52 (gs_ne (by decide) h1) rfl ?_
  rw [hn]
  refine ex_istn (k := ky) (pc := 42) dX2_addText_42 (gs_ne (by decide) h4) rfl hky (by decide) ?_
  refine ex_aload_n (pc := 43) dX2_addText_43 rfl ?_
  refine ex_dup (pc := 44) dX2_addText_44 rfl ?_
  refine ex_get (pc := 45) dX2_addText_45 fl_X2_52 (gs_ne (by decide) (gs_ne (by decide) h1)) rfl ?_
  rw [hn]
  refine ex_iconst (pc := 48) (v := (nI 1)) dX2_addText_48 (by decide) ?_
  refine ex_iadd (pc := 49) dX2_addText_49 ?_
  rw [nI_add]
  refine ex_put (pc := 50) dX2_addText_50 fp_X2_52 (gs_ne (by decide) (gs_ne (by decide) h1)) (Nat.le_of_ble_eq_true rfl) rfl rfl ?_
  rw [rm_1]
  refine ex_vret dX2_addText_53 rfl ?_
  exact qv_mk rfl

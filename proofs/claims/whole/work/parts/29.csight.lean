/-! the class: how far a post reaches, what it sees; sets of cells of both sides -/
theorem sx_astore_nN {g : Gl} {M : Mt} {d kc ks pc : Nat} {als : List (Option Value)} {st : List Value} {h : AH} {Q : AH → Option Value → Prop} {i : Fin 4} (hd : decode M.2.1 pc = .ok (.astore_n i, 1)) (ho : okS als (i : Nat) = true) (hn : (i : Nat) < M.2.2.1) (K : Ex g M d kc ks (pc + 1) (als.set (i : Nat) (some .null)) st h Q) : Ex g M d kc ks pc als (.null :: st) h Q := ex_astore_nN hd (okS_1 ho) (okS_2 ho) hn K
set_option maxHeartbeats 4000000 in
set_option maxRecDepth 100000 in
theorem c_R_reachOf {g : Gl} {d ks : Nat} {h : AH} {b n nt : Nat} {s : Nat → Int32} (hC : CR g h b s n nt) (hd : 2 ≤ d) {q : Nat} {kd ce si ti : Int32} (hp : h[q]? = some (po kd ce si ti)) (hq : q < 90) : Ex g mX2_reachOf d 0 ks 0 [some (.ref (g.1 + b)), some (.ref (g.1 + q)), none, none] [] h (qi (fun h' r => Sq g h h' ∧ r = rchS s nt kd ti si)) := by
  obtain ⟨ft, fl, tx, h2, h3, htx, hl⟩ := hC.2.2.2.1
  have hnt2 := hC.2.2.1.2.1
  cases hc : cntS s nt (nI 0) with
  | none =>
    refine ex_aload_n (pc := 0) dX2_reachOf_0 rfl ?_
    refine ex_iconst (pc := 1) (v := (nI 0)) dX2_reachOf_1 (by decide) ?_
    refine cx_VL1r (pc := 2) dX2_reachOf_2 lk_X2_91 hC.1.1 rfl (Nat.le_of_ble_eq_true rfl) (Nat.le_of_ble_eq_true rfl) (by omega) (c_R_countingText_n hC h2 h3 (key := 0) (by omega) (hl 0 (by omega)) (by omega) hc) (fun h_2 x_2 q_2 => ?_)
    obtain ⟨e_2, rfl⟩ := q_2
    rw [e_2]
    refine sx_astore_nN (pc := 5) dX2_reachOf_5 rfl (by decide) ?_
    show Ex _ _ _ _ _ _ [_, _, _, _] _ _ _
    refine ex_aload_nN (pc := 6) dX2_reachOf_6 rfl ?_
    refine ex_ifnonnullN (pc := 7) dX2_reachOf_7 ?_
    refine ex_iconst (pc := 10) (v := (nI 5)) dX2_reachOf_10 (by decide) ?_
    refine ex_goto (pc := 11) (tgt := 30) dX2_reachOf_11 (by decide) ?_
    refine sx_istore_n (pc := 30) dX2_reachOf_30 rfl (by decide) ?_
    show Ex _ _ _ _ _ _ [_, _, _, _] _ _ _
    refine ex_aload_n (pc := 31) dX2_reachOf_31 rfl ?_
    refine ex_iload_n (pc := 32) dX2_reachOf_32 rfl ?_
    refine ex_bipush (pc := 33) (v := (nI 99)) dX2_reachOf_33 (by decide) ?_
    refine cx_SN2i (pc := 35) dX2_reachOf_35 lk_X2_105 rfl (Nat.le_of_ble_eq_true rfl) (Nat.le_of_ble_eq_true rfl) (by omega) (c_held (by omega) _ _) (fun h_35 x_35 q_35 => ?_)
    obtain ⟨e_35, rfl⟩ := q_35
    rw [e_35]
    refine cx_VL1i (pc := 38) dX2_reachOf_38 lk_X2_109 hp rfl (Nat.le_of_ble_eq_true rfl) (Nat.le_of_ble_eq_true rfl) (by omega) (c_P_reachFrom hp _) (fun h_38 x_38 q_38 => ?_)
    obtain ⟨e_38, rfl⟩ := q_38
    rw [e_38]
    refine ex_ret dX2_reachOf_41 rfl ?_
    refine qi_mk ⟨Sq.rf, ?_⟩
    rw [rchS, plnS, hc]
    rfl
  | some t =>
    obtain ⟨ht, hkey⟩ := lstF_lt hc
    obtain ⟨he, ky, L, lv, hok, f, fs, t1, t2, t3, t4⟩ := htx t ht
    have hky : ky = 0 := by
      have e1 := hok.1
      rw [hkey] at e1
      exact ((nI_eq (by omega) (by have := hok.2.1; omega)).mp e1).symm
    subst hky
    have hop : ∀ k, k < L → opC f ti si (s 2) k = opM (whS s t) (vS s t) (nmF 0 ti si (s 2)) k := fun k hk => enc_op (by omega) (hok.2.2.2.2.1 k hk) (t4 k hk)
    have hwC : wfO (opC f ti si (s 2)) L lv := wfO_tag (fun k hk => by rw [hop k hk]) (hok.wf (nmF 0 ti si (s 2)))
    refine ex_aload_n (pc := 0) dX2_reachOf_0 rfl ?_
    refine ex_iconst (pc := 1) (v := (nI 0)) dX2_reachOf_1 (by decide) ?_
    refine cx_VL1r (pc := 2) dX2_reachOf_2 lk_X2_91 hC.1.1 rfl (Nat.le_of_ble_eq_true rfl) (Nat.le_of_ble_eq_true rfl) (by omega) (c_R_countingText_s hC h2 h3 (key := 0) (by omega) (hl 0 (by omega)) (by omega) hc he) (fun h_2 x_2 q_2 => ?_)
    obtain ⟨e_2, rfl⟩ := q_2
    rw [e_2]
    refine sx_astore_n (pc := 5) dX2_reachOf_5 rfl (by decide) ?_
    show Ex _ _ _ _ _ _ [_, _, _, _] _ _ _
    refine ex_aload_n (pc := 6) dX2_reachOf_6 rfl ?_
    refine ex_ifnonnull (pc := 7) (tgt := 14) dX2_reachOf_7 (by decide) ?_
    refine ex_aload_n (pc := 14) dX2_reachOf_14 rfl ?_
    refine ex_aload_n (pc := 15) dX2_reachOf_15 rfl ?_
    refine ex_get (pc := 16) dX2_reachOf_16 fl_X2_95 hp rfl ?_
    refine ex_aload_n (pc := 19) dX2_reachOf_19 rfl ?_
    refine ex_get (pc := 20) dX2_reachOf_20 fl_X2_98 hp rfl ?_
    refine ex_aload_n (pc := 23) dX2_reachOf_23 rfl ?_
    refine ex_get (pc := 24) dX2_reachOf_24 fl_X2_40 hC.1.1 rfl ?_
    refine cx_VL3i (pc := 27) dX2_reachOf_27 lk_X2_101 t1 rfl (Nat.le_of_ble_eq_true rfl) (Nat.le_of_ble_eq_true rfl) (by omega) (c_T_work (by omega) t1 t2 t3 hwC (by omega) (by omega)) (fun h_27 x_27 q_27 => ?_)
    obtain ⟨e_27, rfl⟩ := q_27
    rw [e_27]
    refine sx_istore_n (pc := 30) dX2_reachOf_30 rfl (by decide) ?_
    show Ex _ _ _ _ _ _ [_, _, _, _] _ _ _
    refine ex_aload_n (pc := 31) dX2_reachOf_31 rfl ?_
    refine ex_iload_n (pc := 32) dX2_reachOf_32 rfl ?_
    refine ex_bipush (pc := 33) (v := (nI 99)) dX2_reachOf_33 (by decide) ?_
    refine cx_SN2i (pc := 35) dX2_reachOf_35 lk_X2_105 rfl (Nat.le_of_ble_eq_true rfl) (Nat.le_of_ble_eq_true rfl) (by omega) (c_held (by omega) _ _) (fun h_35 x_35 q_35 => ?_)
    obtain ⟨e_35, rfl⟩ := q_35
    rw [e_35]
    refine cx_VL1i (pc := 38) dX2_reachOf_38 lk_X2_109 (gs_ne (by omega) hp) rfl (Nat.le_of_ble_eq_true rfl) (Nat.le_of_ble_eq_true rfl) (by omega) (c_P_reachFrom (gs_ne (by omega) hp) _) (fun h_38 x_38 q_38 => ?_)
    obtain ⟨e_38, rfl⟩ := q_38
    rw [e_38]
    refine ex_ret dX2_reachOf_41 rfl ?_
    refine qi_mk ⟨Sq.st (Or.inr (Or.inr ⟨by omega, by omega⟩)) t3, ?_⟩
    rw [rchS, plnS, hc]
    show rch kd (hld _ _) = rch kd (hld (txv s t (tLS s t) _) _)
    rw [tLS_eq hok, ← txv_eq hok (nm := nmF 0 ti si (s 2)) (fs := fs) (fun _ _ => rfl), (pil_op (f := fs) hop L (Nat.le_refl _)).1]
set_option maxHeartbeats 4000000 in
set_option maxRecDepth 100000 in
theorem c_R_sightOf_l {g : Gl} {d ks : Nat} {h : AH} {b n : Nat} {s : Nat → Int32} (hR : RoomB g h b s n) (hd : 3 ≤ d) {q c : Nat} {kd si ti : Int32} (hp : h[q]? = some (po kd (nI c) si ti)) (hc : c < 48) (rc : Int32) : ∀ (m k : Nat), k + m = 48 → Ex g mX2_sightOf d 0 ks 11 [some (.ref (g.1 + b)), some (.ref (g.1 + q)), some (.int rc), some (.long (setL (fun t => seeS s kd si c rc t) k)), none, some (.int (nI k))] [] h (ql (fun h' r => h' = h ∧ r = setL (fun t => seeS s kd si c rc t) 48)) := by
  intro m
  induction m with
  | zero =>
    intro k hk
    refine ex_iload (pc := 11) dX2_sightOf_11 rfl ?_
    refine ex_bipush (pc := 13) (v := (nI 48)) dX2_sightOf_13 (by decide) ?_
    refine bx_icmp_ge_t (pc := 15) (tgt := 43) dX2_sightOf_15 (by decide) (by rw [show k = 48 by omega]; exact Int32.le_refl _) ?_
    refine ex_lload_n (pc := 43) dX2_sightOf_43 rfl ?_
    refine ex_lret dX2_sightOf_44 rfl ?_
    obtain rfl : k = 48 := by omega
    exact ql_mk ⟨rfl, rfl⟩
  | succ m ih =>
    intro k hk
    refine ex_iload (pc := 11) dX2_sightOf_11 rfl ?_
    refine ex_bipush (pc := 13) (v := (nI 48)) dX2_sightOf_13 (by decide) ?_
    refine bx_icmp_ge_f (pc := 15) (tgt := 43) dX2_sightOf_15 (by decide) (nI_ge (by omega) (by omega)) ?_
    refine ex_aload_n (pc := 18) dX2_sightOf_18 rfl ?_
    refine ex_aload_n (pc := 19) dX2_sightOf_19 rfl ?_
    refine ex_iload (pc := 20) dX2_sightOf_20 rfl ?_
    refine ex_iload_n (pc := 22) dX2_sightOf_22 rfl ?_
    refine cx_VL3i (pc := 23) dX2_sightOf_23 lk_X2_135 hR.1 rfl (Nat.le_of_ble_eq_true rfl) (Nat.le_of_ble_eq_true rfl) (by omega) (c_R_isInSight hR (by omega) hc (show k < 48 by omega) hp rc) (fun h_23 x_23 q_23 => ?_)
    obtain ⟨e_23, rfl⟩ := q_23
    rw [e_23]
    refine ex_if_eq (pc := 26) (tgt := 37) dX2_sightOf_26 (by decide) (fun c_26 => ?_) (fun c_26 => ?_)
    · skip
      first | refine sx_inc (pc := 37) dX2_sightOf_37 rfl rfl (by decide) ?_ | refine sx_iinc (pc := 37) dX2_sightOf_37 rfl rfl (by decide) ?_
      show Ex _ _ _ _ _ _ [_, _, _, _, _, _] _ _ _
      refine ex_goto (pc := 40) (tgt := 11) dX2_sightOf_40 (by decide) ?_
      have z := ih (k + 1) (by omega)
      rw [setL] at z
      simp only [bI_0] at c_26
      first | (rw [if_pos (Decidable.not_not.mp c_26)] at z; exact z) | (rw [if_neg c_26] at z; exact z)
    · skip
      refine ex_lload_n (pc := 29) dX2_sightOf_29 rfl ?_
      refine ex_iload (pc := 30) dX2_sightOf_30 rfl ?_
      refine cx_SN1l (pc := 32) dX2_sightOf_32 lk_X2_139 rfl (Nat.le_of_ble_eq_true rfl) (Nat.le_of_ble_eq_true rfl) (by omega) (c_bit _) (fun h_32 x_32 q_32 => ?_)
      obtain ⟨e_32, rfl⟩ := q_32
      rw [e_32]
      refine ex_lor (pc := 35) dX2_sightOf_35 ?_
      refine sx_lstore_n (pc := 36) dX2_sightOf_36 rfl (by decide) ?_
      show Ex _ _ _ _ _ _ [_, _, _, _, _, _] _ _ _
      first | refine sx_inc (pc := 37) dX2_sightOf_37 rfl rfl (by decide) ?_ | refine sx_iinc (pc := 37) dX2_sightOf_37 rfl rfl (by decide) ?_
      show Ex _ _ _ _ _ _ [_, _, _, _, _, _] _ _ _
      refine ex_goto (pc := 40) (tgt := 11) dX2_sightOf_40 (by decide) ?_
      have z := ih (k + 1) (by omega)
      rw [setL] at z
      simp only [bI_0] at c_26
      first | (rw [if_pos (Decidable.not_not.mp c_26)] at z; exact z) | (rw [if_neg c_26] at z; exact z)
set_option maxHeartbeats 4000000 in
set_option maxRecDepth 100000 in
theorem c_R_sightOf {g : Gl} {d ks : Nat} {h : AH} {b n nt : Nat} {s : Nat → Int32} (hC : CR g h b s n nt) (hd : 3 ≤ d) {q c : Nat} {kd si ti : Int32} (hp : h[q]? = some (po kd (nI c) si ti)) (hc : c < 48) (hq : q < 90) : Ex g mX2_sightOf d 0 ks 0 [some (.ref (g.1 + b)), some (.ref (g.1 + q)), none, none, none, none] [] h (ql (fun h' r => Sq g h h' ∧ r = setL (fun t => seeS s kd si c (rchS s nt kd ti si) t) 48)) := by
  refine ex_aload_n (pc := 0) dX2_sightOf_0 rfl ?_
  refine ex_aload_n (pc := 1) dX2_sightOf_1 rfl ?_
  refine cx_VL1i (pc := 2) dX2_sightOf_2 lk_X2_131 hC.1.1 rfl (Nat.le_of_ble_eq_true rfl) (Nat.le_of_ble_eq_true rfl) (by omega) (c_R_reachOf hC (by omega) hp hq) (fun h_2 x_2 q_2 => ?_)
  obtain ⟨hs_2, rfl⟩ := q_2
  refine sx_istore_n (pc := 5) dX2_sightOf_5 rfl (by decide) ?_
  show Ex _ _ _ _ _ _ [_, _, _, _, _, _] _ _ _
  refine ex_lconst (pc := 6) (v := 0) dX2_sightOf_6 (by decide) ?_
  refine sx_lstore_n (pc := 7) dX2_sightOf_7 rfl (by decide) ?_
  show Ex _ _ _ _ _ _ [_, _, _, _, _, _] _ _ _
  refine ex_iconst (pc := 8) (v := (nI 0)) dX2_sightOf_8 (by decide) ?_
  refine sx_istore (pc := 9) dX2_sightOf_9 rfl (by decide) ?_
  show Ex _ _ _ _ _ _ [_, _, _, _, _, _] _ _ _
  refine (c_R_sightOf_l (hC.sq hs_2).1 hd (hs_2.at (nscr hq) hp) hc _ 48 0 (by omega)).mono (fun h' r q => ?_)
  obtain ⟨x, rfl, e, rfl⟩ := q
  exact ql_mk ⟨by rw [e]; exact hs_2, rfl⟩

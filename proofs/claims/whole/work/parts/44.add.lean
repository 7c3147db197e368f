/-! a post that comes to a room of the class; posts by lot -/
theorem rmC_eq {g : Gl} {b : Nat} {s s' : Nat → Int32} {w : Int64} (h : ∀ k, k < 10 → s' k = s k) : rmC g b s' w = rmC g b s w := by
  unfold rmC
  rw [h 0 (by omega), h 1 (by omega), h 2 (by omega), h 3 (by omega), h 4 (by omega), h 5 (by omega), h 6 (by omega), h 7 (by omega), h 9 (by omega)]
theorem cmS_lo {s : Nat → Int32} {n : Nat} {kd ce si ti : Int32} {k : Nat} (hk : k < 10 + 4 * n ∨ 10 + 4 * n + 4 ≤ k) : cmS s n kd ce si ti k = upd s 0 (nI n + nI 1) k := by
  unfold cmS
  rw [upd_ne (by omega), upd_ne (by omega), upd_ne (by omega), upd_ne (by omega)]
theorem cmS_pS {s : Nat → Int32} {n : Nat} {kd ce si ti : Int32} : pS (cmS s n kd ce si ti) n = po kd ce si ti := by
  unfold pS cmS
  rw [upd_ne (j := 10 + 4 * n + 0) (k := 10 + 4 * n + 3) (by omega), upd_ne (j := 10 + 4 * n + 0) (k := 10 + 4 * n + 2) (by omega), upd_ne (j := 10 + 4 * n + 0) (k := 10 + 4 * n + 1) (by omega), upd_eq, upd_ne (j := 10 + 4 * n + 1) (k := 10 + 4 * n + 3) (by omega), upd_ne (j := 10 + 4 * n + 1) (k := 10 + 4 * n + 2) (by omega), upd_eq, upd_ne (j := 10 + 4 * n + 2) (k := 10 + 4 * n + 3) (by omega), upd_eq, upd_eq]
theorem RoomB.add {g : Gl} {h : AH} {b n : Nat} {s : Nat → Int32} (hR : RoomB g h b s n) (hn : n < 8) (kd ce si ti : Int32) : RoomB g ((h.set (b + 4 + n) (po kd ce si ti)).set b (rmC g b (upd s 0 (nI n + nI 1)) (setL (wll s) 48))) b (cmS s n kd ce si ti) (n + 1) := by
  obtain ⟨a1, a2, a3, ⟨fp, a4, a5⟩, a6, a7⟩ := hR
  obtain ⟨k1, k2, k3, k4, e0⟩ := a7 n hn
  have ew : wll (cmS s n kd ce si ti) = wll s := by
    funext c; unfold wll; rw [cmS_lo (by omega), upd_ne (by omega)]
  refine ⟨?_, ?_, by omega, ⟨fp, gs_ne (by omega) (gs_ne (by omega) a4), a5⟩, fun i hi => ?_, fun i hi => ?_⟩
  · rw [ew, rmC_eq (s' := cmS s n kd ce si ti) (s := upd s 0 (nI n + nI 1)) (fun k hk => cmS_lo (by omega))]
    exact gs_eq (gs_ne (by omega) a1)
  · rw [cmS_lo (by omega), upd_eq, nI_add]
  · by_cases e : i = n
    · subst e; rw [cmS_pS]; exact gs_ne (by omega) (gs_eq e0)
    · refine gs_ne (by omega) (gs_ne (by omega) ?_)
      have q := a6 i (by omega)
      unfold pS at q ⊢
      rw [cmS_lo (k := 10 + 4 * i + 0) (by omega), cmS_lo (k := 10 + 4 * i + 1) (by omega), cmS_lo (k := 10 + 4 * i + 2) (by omega), cmS_lo (k := 10 + 4 * i + 3) (by omega), upd_ne (j := 10 + 4 * i + 0) (by omega), upd_ne (j := 10 + 4 * i + 1) (by omega), upd_ne (j := 10 + 4 * i + 2) (by omega), upd_ne (j := 10 + 4 * i + 3) (by omega)]
      exact q
  · by_cases e : i = n
    · subst e; exact ⟨_, _, _, _, gs_ne (by omega) (gs_eq e0)⟩
    · obtain ⟨u1, u2, u3, u4, q⟩ := a7 i hi
      exact ⟨u1, u2, u3, u4, gs_ne (by omega) (gs_ne (by omega) q)⟩
set_option maxHeartbeats 4000000 in
set_option maxRecDepth 100000 in
theorem c_R_addPost {g : Gl} {d ks : Nat} {h : AH} {b n : Nat} {s : Nat → Int32} (hR : RoomB g h b s n) (hb : b ≤ 25) (hn : n < 8) (hd : 1 ≤ d) (kd ce si ti : Int32) : Ex g mX2_addPost d 0 ks 0 [some (.ref (g.1 + b)), some (.int kd), some (.int ce), some (.int si), some (.int ti)] [] h (qv (fun h' => RoomB g h' b (cmS s n kd ce si ti) (n + 1) ∧ FrX (rmX b) g h h')) := by
  have hN := hR.2.1
  obtain ⟨fp, hfp, hfp2⟩ := hR.2.2.2.1
  obtain ⟨k1, k2, k3, k4, e0⟩ := hR.2.2.2.2.2 n hn
  refine ex_aload_n (pc := 0) dX2_addPost_0 rfl ?_
  refine ex_get (pc := 1) dX2_addPost_1 fl_X2_17 hR.1 rfl ?_
  refine ex_bipush (pc := 4) (v := (nI 8)) dX2_addPost_4 (by decide) ?_
  refine bx_icmp_ge_f (pc := 6) (tgt := 36) dX2_addPost_6 (by decide) (by rw [hN]; exact nI_ge (by omega) (by omega)) ?_
  refine ex_aload_n (pc := 9) dX2_addPost_9 rfl ?_
  refine ex_get (pc := 10) dX2_addPost_10 fl_X2_11 hR.1 rfl ?_
  refine ex_aload_n (pc := 13) dX2_addPost_13 rfl ?_
  refine ex_get (pc := 14) dX2_addPost_14 fl_X2_17 hR.1 rfl ?_
  refine ex_aldn (k := n) (v := .ref (g.1 + (b + 4 + n))) (pc := 17) dX2_addPost_17 rfl hfp hN (by omega) (by decide) (congrArg va_rf (hfp2 n (by omega))) ?_
  refine ex_iload_n (pc := 18) dX2_addPost_18 rfl ?_
  refine ex_iload_n (pc := 19) dX2_addPost_19 rfl ?_
  refine ex_iload_n (pc := 20) dX2_addPost_20 rfl ?_
  refine ex_iload (pc := 21) dX2_addPost_21 rfl ?_
  refine cx_VL4v (pc := 23) dX2_addPost_23 lk_X2_76 e0 rfl (Nat.le_of_ble_eq_true rfl) (Nat.le_of_ble_eq_true rfl) (by omega) (c_P_become e0 _ _ _ _) (fun h_23 q_23 => ?_)
  rw [q_23]
  refine ex_aload_n (pc := 26) dX2_addPost_26 rfl ?_
  refine ex_dup (pc := 27) dX2_addPost_27 rfl ?_
  refine ex_get (pc := 28) dX2_addPost_28 fl_X2_17 (gs_ne (by omega) hR.1) rfl ?_
  refine ex_iconst (pc := 31) (v := (nI 1)) dX2_addPost_31 (by decide) ?_
  refine ex_iadd (pc := 32) dX2_addPost_32 ?_
  refine ex_put (pc := 33) dX2_addPost_33 fp_X2_17 (gs_ne (by omega) hR.1) (Nat.le_of_ble_eq_true rfl) rfl rfl ?_
  rw [rm_0, hN]
  refine ex_vret dX2_addPost_36 rfl ?_
  refine qv_mk ⟨hR.add hn kd ce si ti, ?_⟩
  exact (FrX.st (Or.inr ⟨by omega, by omega⟩) (nscr (by omega))).tr (FrX.rm hb)

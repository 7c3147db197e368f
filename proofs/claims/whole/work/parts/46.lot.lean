/-! a post by lot -/
theorem c_R_drawn {g : Gl} {d ks : Nat} {h : AH} {b n : Nat} {s : Nat → Int32} (hR : RoomB g h b s n) (hb : b ≤ 25) : Ex g mX2_draw d 0 ks 0 [some (.ref (g.1 + b))] [] h (qi (fun h' r => (RoomB g h' b (drS s) n ∧ FrX (rmX b) g h h') ∧ r = nI (dN (s 9)))) := by
  refine (c_R_draw hR).mono (fun h' r a => ?_)
  obtain ⟨x, e, a1, a2⟩ := a
  refine ⟨x, e, ⟨?_, ?_⟩, a2.trans (drv_eq _)⟩
  · rw [a1]; exact hR.fld (k := 9) _ (by omega) (by omega)
  · rw [a1]; exact FrX.rm hb
abbrev dr4 (s : Nat → Int32) : Nat → Int32 := drS (drS (drS (drS s)))
/-- where the drawn post stands -/
noncomputable def dpC (s : Nat → Int32) (n : Nat) : Option Nat := nfF (fre (dr4 s) n) 48 (dN (drS s 9) % 48)
noncomputable def dpT (s : Nat → Int32) (n : Nat) (o : Option Nat) : Nat → Int32 := match o with
  | none => dr4 s
  | some j => cmS (dr4 s) n (nI (dN (s 9) % 6)) (nI j) (nI (dN (drS (drS s) 9) % 4)) (nI (dN (drS (drS (drS s)) 9) % 60))
def dpM (n : Nat) (o : Option Nat) : Nat := match o with
  | none => n
  | some _ => n + 1
set_option maxHeartbeats 4000000 in
set_option maxRecDepth 100000 in
theorem c_R_drawPost_l {g : Gl} {d ks : Nat} {h : AH} {b n : Nat} {s : Nat → Int32} (hR : RoomB g h b s n) (hb : b ≤ 25) (hn : n < 8) (hd : 2 ≤ d) {kd sd ti : Int32} {c : Nat} (hc : c < 48) : ∀ (m k : Nat) (l6 : Option Value), k + m = 48 → Ex g mX2_drawPost d 0 ks 35 [some (.ref (g.1 + b)), some (.int kd), some (.int (nI c)), some (.int sd), some (.int ti), some (.int (nI k)), l6] [] h (qi (fun h' r => (RoomB g h' b (match nfF (fre s n) m ((c + k) % 48) with | none => s | some j => cmS s n kd (nI j) sd ti) (dpM n (nfF (fre s n) m ((c + k) % 48))) ∧ FrX (rmX b) g h h') ∧ r = bI ((nfF (fre s n) m ((c + k) % 48)).isSome = true))) := by
  intro m
  induction m with
  | zero =>
    intro k l6 hk
    rw [show nfF (fre s n) 0 ((c + k) % 48) = none from rfl]
    refine ex_iload (pc := 35) dX2_drawPost_35 rfl ?_
    refine ex_bipush (pc := 37) (v := (nI 48)) dX2_drawPost_37 (by decide) ?_
    refine bx_icmp_ge_t (pc := 39) (tgt := 78) dX2_drawPost_39 (by decide) (by rw [show k = 48 by omega]; exact Int32.le_refl _) ?_
    refine ex_iconst (pc := 78) (v := 0) dX2_drawPost_78 (by decide) ?_
    refine ex_zret dX2_drawPost_79 rfl (by first | exact Or.inl rfl | exact Or.inr rfl | exact bI_01 _) ?_
    exact qi_mk ⟨⟨hR, FrX.rf⟩, by decide⟩
  | succ m ih =>
    intro k l6 hk
    by_cases hf : fre s n ((c + k) % 48) = true
    · skip
      refine ex_iload (pc := 35) dX2_drawPost_35 rfl ?_
      refine ex_bipush (pc := 37) (v := (nI 48)) dX2_drawPost_37 (by decide) ?_
      refine bx_icmp_ge_f (pc := 39) (tgt := 78) dX2_drawPost_39 (by decide) (nI_ge (by omega) (by omega)) ?_
      refine ex_iload_n (pc := 42) dX2_drawPost_42 rfl ?_
      refine ex_iload (pc := 43) dX2_drawPost_43 rfl ?_
      refine ex_iadd (pc := 45) dX2_drawPost_45 ?_
      refine ex_bipush (pc := 46) (v := (nI 48)) dX2_drawPost_46 (by decide) ?_
      refine ex_irem (pc := 48) dX2_drawPost_48 (by decide) ?_
      rw [nI_add, nI_rem (by omega) (by decide) (by decide)]
      refine sx_istore (pc := 49) dX2_drawPost_49 rfl (by decide) ?_
      show Ex _ _ _ _ _ _ [_, _, _, _, _, _, _] _ _ _
      refine ex_aload_n (pc := 51) dX2_drawPost_51 rfl ?_
      refine ex_iload (pc := 52) dX2_drawPost_52 rfl ?_
      refine cx_VL1i (pc := 54) dX2_drawPost_54 lk_X2_85 hR.1 rfl (Nat.le_of_ble_eq_true rfl) (Nat.le_of_ble_eq_true rfl) (by omega) (c_R_isFree hR (by omega) (Nat.mod_lt _ (by decide))) (fun h_54 x_54 q_54 => ?_)
      obtain ⟨e_54, rfl⟩ := q_54
      rw [e_54]
      refine bx_if_eq_f (pc := 57) (tgt := 72) dX2_drawPost_57 (by decide) (fun z => bI_0.mp z hf) ?_
      refine ex_aload_n (pc := 60) dX2_drawPost_60 rfl ?_
      refine ex_iload_n (pc := 61) dX2_drawPost_61 rfl ?_
      refine ex_iload (pc := 62) dX2_drawPost_62 rfl ?_
      refine ex_iload_n (pc := 64) dX2_drawPost_64 rfl ?_
      refine ex_iload (pc := 65) dX2_drawPost_65 rfl ?_
      refine cx_VL4v (pc := 67) dX2_drawPost_67 lk_X2_88 hR.1 rfl (Nat.le_of_ble_eq_true rfl) (Nat.le_of_ble_eq_true rfl) (by omega) (c_R_addPost hR hb hn (by omega) _ _ _ _) (fun h_67 q_67 => ?_)
      refine ex_iconst (pc := 70) (v := 1) dX2_drawPost_70 (by decide) ?_
      refine ex_zret dX2_drawPost_71 rfl (by first | exact Or.inl rfl | exact Or.inr rfl | exact bI_01 _) ?_
      have e : nfF (fre s n) (m + 1) ((c + k) % 48) = some ((c + k) % 48) := by rw [nfF, if_pos hf]
      rw [e]
      exact qi_mk ⟨q_67, (bI_t rfl).symm⟩
    · skip
      refine ex_iload (pc := 35) dX2_drawPost_35 rfl ?_
      refine ex_bipush (pc := 37) (v := (nI 48)) dX2_drawPost_37 (by decide) ?_
      refine bx_icmp_ge_f (pc := 39) (tgt := 78) dX2_drawPost_39 (by decide) (nI_ge (by omega) (by omega)) ?_
      refine ex_iload_n (pc := 42) dX2_drawPost_42 rfl ?_
      refine ex_iload (pc := 43) dX2_drawPost_43 rfl ?_
      refine ex_iadd (pc := 45) dX2_drawPost_45 ?_
      refine ex_bipush (pc := 46) (v := (nI 48)) dX2_drawPost_46 (by decide) ?_
      refine ex_irem (pc := 48) dX2_drawPost_48 (by decide) ?_
      rw [nI_add, nI_rem (by omega) (by decide) (by decide)]
      refine sx_istore (pc := 49) dX2_drawPost_49 rfl (by decide) ?_
      show Ex _ _ _ _ _ _ [_, _, _, _, _, _, _] _ _ _
      refine ex_aload_n (pc := 51) dX2_drawPost_51 rfl ?_
      refine ex_iload (pc := 52) dX2_drawPost_52 rfl ?_
      refine cx_VL1i (pc := 54) dX2_drawPost_54 lk_X2_85 hR.1 rfl (Nat.le_of_ble_eq_true rfl) (Nat.le_of_ble_eq_true rfl) (by omega) (c_R_isFree hR (by omega) (Nat.mod_lt _ (by decide))) (fun h_54 x_54 q_54 => ?_)
      obtain ⟨e_54, rfl⟩ := q_54
      rw [e_54]
      refine bx_if_eq_t (pc := 57) (tgt := 72) dX2_drawPost_57 (by decide) (bI_0.mpr hf) ?_
      first | refine sx_inc (pc := 72) dX2_drawPost_72 rfl rfl (by decide) ?_ | refine sx_iinc (pc := 72) dX2_drawPost_72 rfl rfl (by decide) ?_
      show Ex _ _ _ _ _ _ [_, _, _, _, _, _, _] _ _ _
      refine ex_goto (pc := 75) (tgt := 35) dX2_drawPost_75 (by decide) ?_
      have e : nfF (fre s n) (m + 1) ((c + k) % 48) = nfF (fre s n) m ((c + (k + 1)) % 48) := by
        rw [nfF, if_neg hf, show ((c + k) % 48 + 1) % 48 = (c + (k + 1)) % 48 by omega]
      rw [e]
      exact ih (k + 1) _ (by omega)
set_option maxHeartbeats 4000000 in
set_option maxRecDepth 100000 in
theorem c_R_drawPost {g : Gl} {d ks : Nat} {h : AH} {b n : Nat} {s : Nat → Int32} (hR : RoomB g h b s n) (hb : b ≤ 25) (hn : n < 8) (hd : 2 ≤ d) : Ex g mX2_drawPost d 0 ks 0 [some (.ref (g.1 + b)), none, none, none, none, none, none] [] h (qi (fun h' r => (RoomB g h' b (dpT s n (dpC s n)) (dpM n (dpC s n)) ∧ FrX (rmX b) g h h') ∧ r = bI ((dpC s n).isSome = true))) := by
  refine ex_aload_n (pc := 0) dX2_drawPost_0 rfl ?_
  refine cx_VL0i (pc := 1) dX2_drawPost_1 lk_X2_81 hR.1 rfl (Nat.le_of_ble_eq_true rfl) (Nat.le_of_ble_eq_true rfl) (by omega) (c_R_drawn hR hb) (fun h_1 x_1 q_1 => ?_)
  obtain ⟨⟨r1, u1⟩, e_1⟩ := q_1
  rw [e_1]
  refine ex_bipush (pc := 4) (v := (nI 6)) dX2_drawPost_4 (by decide) ?_
  refine ex_irem (pc := 6) dX2_drawPost_6 (by decide) ?_
  rw [nI_rem (Nat.lt_trans (dN_lt _) (by decide)) (by decide) (by decide)]
  refine sx_istore_n (pc := 7) dX2_drawPost_7 rfl (by decide) ?_
  show Ex _ _ _ _ _ _ [_, _, _, _, _, _, _] _ _ _
  refine ex_aload_n (pc := 8) dX2_drawPost_8 rfl ?_
  refine cx_VL0i (pc := 9) dX2_drawPost_9 lk_X2_81 r1.1 rfl (Nat.le_of_ble_eq_true rfl) (Nat.le_of_ble_eq_true rfl) (by omega) (c_R_drawn r1 hb) (fun h_9 x_9 q_9 => ?_)
  obtain ⟨⟨r2, u2⟩, e_9⟩ := q_9
  rw [e_9]
  refine ex_bipush (pc := 12) (v := (nI 48)) dX2_drawPost_12 (by decide) ?_
  refine ex_irem (pc := 14) dX2_drawPost_14 (by decide) ?_
  rw [nI_rem (Nat.lt_trans (dN_lt _) (by decide)) (by decide) (by decide)]
  refine sx_istore_n (pc := 15) dX2_drawPost_15 rfl (by decide) ?_
  show Ex _ _ _ _ _ _ [_, _, _, _, _, _, _] _ _ _
  refine ex_aload_n (pc := 16) dX2_drawPost_16 rfl ?_
  refine cx_VL0i (pc := 17) dX2_drawPost_17 lk_X2_81 r2.1 rfl (Nat.le_of_ble_eq_true rfl) (Nat.le_of_ble_eq_true rfl) (by omega) (c_R_drawn r2 hb) (fun h_17 x_17 q_17 => ?_)
  obtain ⟨⟨r3, u3⟩, e_17⟩ := q_17
  rw [e_17]
  refine ex_iconst (pc := 20) (v := (nI 4)) dX2_drawPost_20 (by decide) ?_
  refine ex_irem (pc := 21) dX2_drawPost_21 (by decide) ?_
  rw [nI_rem (Nat.lt_trans (dN_lt _) (by decide)) (by decide) (by decide)]
  refine sx_istore_n (pc := 22) dX2_drawPost_22 rfl (by decide) ?_
  show Ex _ _ _ _ _ _ [_, _, _, _, _, _, _] _ _ _
  refine ex_aload_n (pc := 23) dX2_drawPost_23 rfl ?_
  refine cx_VL0i (pc := 24) dX2_drawPost_24 lk_X2_81 r3.1 rfl (Nat.le_of_ble_eq_true rfl) (Nat.le_of_ble_eq_true rfl) (by omega) (c_R_drawn r3 hb) (fun h_24 x_24 q_24 => ?_)
  obtain ⟨⟨r4, u4⟩, e_24⟩ := q_24
  rw [e_24]
  refine ex_bipush (pc := 27) (v := (nI 60)) dX2_drawPost_27 (by decide) ?_
  refine ex_irem (pc := 29) dX2_drawPost_29 (by decide) ?_
  rw [nI_rem (Nat.lt_trans (dN_lt _) (by decide)) (by decide) (by decide)]
  refine sx_istore (pc := 30) dX2_drawPost_30 rfl (by decide) ?_
  show Ex _ _ _ _ _ _ [_, _, _, _, _, _, _] _ _ _
  refine ex_iconst (pc := 32) (v := (nI 0)) dX2_drawPost_32 (by decide) ?_
  refine sx_istore (pc := 33) dX2_drawPost_33 rfl (by decide) ?_
  show Ex _ _ _ _ _ _ [_, _, _, _, _, _, _] _ _ _
  refine (c_R_drawPost_l r4 hb hn hd (Nat.mod_lt _ (by decide)) 48 0 _ (by omega)).mono (fun h' r a => ?_)
  obtain ⟨x, e, ⟨a1, a2⟩, a3⟩ := a
  rw [Nat.add_zero, Nat.mod_mod] at a1 a3
  exact ⟨x, e, ⟨a1, (((u1.tr u2).tr u3).tr u4).tr a2⟩, a3⟩

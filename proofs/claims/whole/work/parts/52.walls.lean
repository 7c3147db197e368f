/-! public calls: walls, the thief, rules, dealing, the seed -/
def blkW (s : Nat → Int32) (n : Nat) (ce : Int32) : Bool := (ownS s n ce).isSome || decide (s 7 = ce)
def okWall (s : Nat → Int32) (n : Nat) (ce v : Int32) : Bool := !(decide (v = nI 1) && blkW s n ce)
def aWall (s : Nat → Int32) (n : Nat) (ce v : Int32) : Int32 := if bw ce 48 && bw v 2 then (if okWall s n ce v then s (42 + ixI ce) else -1000000002) else -1000000001
def nWall (s : Nat → Int32) (n : Nat) (ce v : Int32) : Nat → Int32 := if (bw ce 48 && bw v 2) && okWall s n ce v then upd s (42 + ixI ce) v else s
def aAt (s : Nat → Int32) (n : Nat) (ce v : Int32) : Int32 := if bw ce 48 && bw v 2 then (if v = nI 0 then oN (-1000000005) (ownS s n ce) else s (42 + ixI ce)) else -1000000001
def aThief (s : Nat → Int32) (ce : Int32) : Int32 := if bw ce 48 then (if wll s (ixI ce) then -1000000002 else s 7) else -1000000001
def nThief (s : Nat → Int32) (ce : Int32) : Nat → Int32 := if bw ce 48 && !(wll s (ixI ce)) then upd s 7 ce else s
def aRule (s : Nat → Int32) (wh v : Int32) : Int32 := if bw wh 2 && bw v 101 then s (3 + ixI wh) else -1000000001
def nRule (s : Nat → Int32) (wh v : Int32) : Nat → Int32 := if bw wh 2 && bw v 101 then upd s (3 + ixI wh) v else s
noncomputable def aDeal (s : Nat → Int32) (n : Nat) (N : Int32) : Int32 := if bq N 1 8 then nI (dlS (ixI N) s n).2 else -1000000001
noncomputable def nDeal (s : Nat → Int32) (n : Nat) (N : Int32) : (Nat → Int32) × Nat := if bq N 1 8 then ((dlS (ixI N) s n).1, n + (dlS (ixI N) s n).2) else (s, n)
/-- walls are 0 or 1 -/
def WOk (s : Nat → Int32) : Prop := ∀ c, c < 48 → s (42 + c) = nI 0 ∨ s (42 + c) = nI 1
theorem WOk.is {s : Nat → Int32} (h : WOk s) {c : Nat} (hc : c < 48) : s (42 + c) = bI (s (42 + c) = nI 1) := by
  rcases h c hc with e | e
  · rw [e]; decide
  · rw [e]; decide
theorem bI_bI {p : Prop} [Decidable p] : bI (¬ bI p = 0) = bI p := bI_eq (by rw [bI_0]; exact Decidable.not_not)
theorem own_some {s : Nat → Int32} {n : Nat} {c : Int32} (hn : n ≤ 8) : (¬ oN (-1000000005) (ownS s n c) = -1000000005) ↔ (ownS s n c).isSome = true := by
  rw [oN_none (by omega)]
  show (¬ (ownS s n c).isNone = true) ↔ _
  generalize ownS s n c = o
  cases o <;> simp
theorem own_ge {s : Nat → Int32} {n : Nat} {c : Int32} (hn : n ≤ 8) : (0 ≤ oN (-1) (ownS s n c)) ↔ (ownS s n c).isSome = true := by
  rw [← Int32.not_lt, oN_neg (by omega)]
  show (¬ (ownS s n c).isNone = true) ↔ _
  generalize ownS s n c = o
  cases o <;> simp
theorem orN_own {s : Nat → Int32} {n : Nat} {c : Int32} (hn : n ≤ 8) : orN (oN (-1) (ownS s n c)) = oN (-1000000005) (ownS s n c) := by
  unfold orN
  cases e : ownS s n c with
  | none => exact if_pos (by show (-1 : Int32) < 0; decide)
  | some j =>
    obtain ⟨_, h2, _⟩ := whoF_lt e
    exact if_neg (nI_pos (by omega))
theorem wl_set {s : Nat → Int32} {c : Nat} (hc : c < 48) : setL (wll s) 48 ||| shl64 1 (nI c) = setL (wll (upd s (42 + c) (nI 1))) 48 := by
  refine setL_of (by omega) (fun i hi => ?_)
  rw [bL_or, b48 hi, bL_bit (by omega) hi]
  unfold wll
  by_cases e : i = c
  · subst e; rw [upd_eq]; simp [hc]
  · rw [upd_ne (by omega)]; simp [e]
theorem wl_clr {s : Nat → Int32} {c : Nat} (hc : c < 48) : setL (wll s) 48 &&& (shl64 1 (nI c) ^^^ (-1)) = setL (wll (upd s (42 + c) (nI 0))) 48 := by
  refine setL_of (by omega) (fun i hi => ?_)
  rw [bL_and, b48 hi, bL_not _ hi, bL_bit (by omega) hi]
  unfold wll
  by_cases e : i = c
  · subst e; rw [upd_eq]; simp [show ¬ nI 0 = nI 1 by decide]
  · rw [upd_ne (by omega)]; simp [e]
theorem RoomB.wl {g : Gl} {h : AH} {b n : Nat} {s : Nat → Int32} (hR : RoomB g h b s n) {c : Nat} (v : Int32) : RoomB g (h.set b (rmC g b s (setL (wll (upd s (42 + c) v)) 48))) b (upd s (42 + c) v) n := by
  obtain ⟨a1, a2, a3, ⟨fp, a4, a5⟩, a6, a7⟩ := hR
  refine ⟨?_, (upd_ne (by omega)).trans a2, a3, ⟨fp, gs_ne (by omega) a4, a5⟩, fun i hi => ?_, fun i hi => ?_⟩
  · rw [rmC_eq (s := s) (s' := upd s (42 + c) v) (fun k hk => upd_ne (by omega))]; exact gs_eq a1
  · have e := a6 i hi
    unfold pS at e ⊢
    rw [upd_ne (by omega), upd_ne (by omega), upd_ne (by omega), upd_ne (by omega)]
    exact gs_ne (by omega) e
  · obtain ⟨kd, ce, si, ti, e⟩ := a7 i hi
    exact ⟨kd, ce, si, ti, gs_ne (by omega) e⟩
theorem POk.wl {s : Nat → Int32} {n : Nat} (h : POk s n) {c : Nat} {v : Int32} : POk (upd s (42 + c) v) n := by
  have := h.2.1
  refine ⟨(upd_ne (by omega)).trans h.1, h.2.1, fun i hi => ?_⟩
  rw [upd_ne (by omega), upd_ne (by omega), upd_ne (by omega)]
  exact h.2.2 i hi
theorem cr_wl {g : Gl} {h : AH} {b n nt : Nat} {s : Nat → Int32} (hC : CR g h b s n nt) {c : Nat} (hc : c < 48) (v : Int32) : CR g (h.set b (rmC g b s (setL (wll (upd s (42 + c) v)) 48))) b (upd s (42 + c) v) n nt ∧ FrX (rmX b) g h (h.set b (rmC g b s (setL (wll (upd s (42 + c) v)) 48))) := by
  have f : FrX (rmX b) g h (h.set b (rmC g b s (setL (wll (upd s (42 + c) v)) 48))) := FrX.rm hC.2.2.2.2
  exact ⟨hC.updE f (lowE.up (by omega) (by omega)) (hC.1.wl v) hC.2.1.wl, f⟩
set_option maxHeartbeats 4000000 in
set_option maxRecDepth 100000 in
theorem c_W_wall {g : Gl} {d ks : Nat} {h : AH} {ik wc : Int32} {s : Nat → Int32} {n nt : Nat} (hW : h[0]? = some (wtC g ik wc)) (hC : CR g h 1 s n nt) (hWo : WOk s) (hd : 2 ≤ d) (ce v : Int32) : Ex g mX6_wall d 0 ks 0 [some (.ref (g.1 + 0)), some (.int ce), some (.int v), none] [] h (qi (fun h' r => (CR g h' 1 (nWall s n ce v) n nt ∧ FrX (rmX 1) g h h') ∧ r = (aWall s n ce v))) := by
  have hR := hC.1
  have hP := hC.2.1
  have hn8 := hP.2.1
  have hN := hR.2.1
  obtain ⟨fp, hfp, hfp2⟩ := hR.2.2.2.1
  refine ex_iload_n (pc := 0) dX6_wall_0 rfl ?_
  refine ex_bipush (pc := 1) (v := (nI 48)) dX6_wall_1 (by decide) ?_
  refine cx_SL2i (pc := 3) dX6_wall_3 lk_X6_69 rfl (Nat.le_of_ble_eq_true rfl) (Nat.le_of_ble_eq_true rfl) (by omega) (c_ib _ _) (fun h_3 x_3 q_3 => ?_)
  obtain ⟨e_3, f_3⟩ := q_3
  rw [e_3, f_3]
  refine ex_if_eq (pc := 6) (tgt := 17) dX6_wall_6 (by decide) (fun c_6 => ?_) (fun c_6 => ?_)
  · skip
    have b_6 := bF c_6
    refine ex_ldc (pc := 17) dX6_wall_17 cn_X6_73 ?_
    refine ex_ret dX6_wall_19 rfl ?_
    have e1 : (nWall s n ce v) = s := by simp [nWall, aWall, okWall, blkW, b_6]
    rw [e1]
    refine qi_mk ⟨⟨hC, FrX.rf⟩, ?_⟩
    simp [nWall, aWall, okWall, blkW, b_6]
  · skip
    have b_6 := bT c_6
    refine ex_iload_n (pc := 9) dX6_wall_9 rfl ?_
    refine ex_iconst (pc := 10) (v := (nI 2)) dX6_wall_10 (by decide) ?_
    refine cx_SL2i (pc := 11) dX6_wall_11 lk_X6_69 rfl (Nat.le_of_ble_eq_true rfl) (Nat.le_of_ble_eq_true rfl) (by omega) (c_ib _ _) (fun h_11 x_11 q_11 => ?_)
    obtain ⟨e_11, f_11⟩ := q_11
    rw [e_11, f_11]
    refine ex_if_ne (pc := 14) (tgt := 20) dX6_wall_14 (by decide) (fun c_14 => ?_) (fun c_14 => ?_)
    · skip
      have b_14 := bT c_14
      obtain ⟨c, hc, rfl⟩ := bw_ex b_6
      have i_c : ixI (nI c) = c := iK (by omega)
      have hv : v = nI 0 ∨ v = nI 1 := by
        obtain ⟨q, hq, e⟩ := bw_ex b_14
        rcases (show q = 0 ∨ q = 1 by omega) with rfl | rfl
        · exact Or.inl e
        · exact Or.inr e
      refine ex_iload_n (pc := 20) dX6_wall_20 rfl ?_
      refine ex_iconst (pc := 21) (v := (nI 1)) dX6_wall_21 (by decide) ?_
      refine ex_icmp_ne (pc := 22) (tgt := 52) dX6_wall_22 (by decide) (fun c_22 => ?_) (fun c_22 => ?_)
      · skip
        refine ex_aload_n (pc := 52) dX6_wall_52 rfl ?_
        refine ex_get (pc := 53) dX6_wall_53 fl_X6_10 hW rfl ?_
        refine ex_iload_n (pc := 56) dX6_wall_56 rfl ?_
        refine cx_VL1i (pc := 57) dX6_wall_57 lk_X6_146 hR.1 rfl (Nat.le_of_ble_eq_true rfl) (Nat.le_of_ble_eq_true rfl) (by omega) (c_R_hasWall hR hc) (fun h_57 x_57 q_57 => ?_)
        obtain ⟨e_57, f_57⟩ := q_57
        rw [e_57, f_57]
        refine cx_SL1i (pc := 60) dX6_wall_60 lk_X6_112 rfl (Nat.le_of_ble_eq_true rfl) (Nat.le_of_ble_eq_true rfl) (by omega) (c_oneIf _) (fun h_60 x_60 q_60 => ?_)
        obtain ⟨e_60, f_60⟩ := q_60
        rw [e_60, f_60]
        refine sx_istore_n (pc := 63) dX6_wall_63 rfl (by decide) ?_
        show Ex _ _ _ _ _ _ [_, _, _, _] _ _ _
        refine ex_aload_n (pc := 64) dX6_wall_64 rfl ?_
        refine ex_get (pc := 65) dX6_wall_65 fl_X6_10 hW rfl ?_
        refine ex_iload_n (pc := 68) dX6_wall_68 rfl ?_
        refine ex_iconst (pc := 69) (v := (nI 1)) dX6_wall_69 (by decide) ?_
        refine ex_icmp_ne (pc := 70) (tgt := 88) dX6_wall_70 (by decide) (fun c_70 => ?_) (fun c_70 => ?_)
        · skip
          refine ex_aload_n (pc := 88) dX6_wall_88 rfl ?_
          refine ex_get (pc := 89) dX6_wall_89 fl_X6_10 hW rfl ?_
          refine ex_get (pc := 92) dX6_wall_92 fl_X6_149 hR.1 rfl ?_
          refine ex_iload_n (pc := 95) dX6_wall_95 rfl ?_
          refine cx_SL1l (pc := 96) dX6_wall_96 lk_X6_153 rfl (Nat.le_of_ble_eq_true rfl) (Nat.le_of_ble_eq_true rfl) (by omega) (c_bit _) (fun h_96 x_96 q_96 => ?_)
          obtain ⟨e_96, f_96⟩ := q_96
          rw [e_96, f_96]
          refine ex_ldc2_w (pc := 99) dX6_wall_99 cn_X6_157 ?_
          refine ex_lxor (pc := 102) dX6_wall_102 ?_
          refine ex_land (pc := 103) dX6_wall_103 ?_
          refine ex_put (pc := 104) dX6_wall_104 fp_X6_149 hR.1 (Nat.le_of_ble_eq_true rfl) rfl rfl ?_
          rw [rm_w]
          refine ex_iload_n (pc := 107) dX6_wall_107 rfl ?_
          refine ex_ret dX6_wall_108 rfl ?_
          obtain rfl : v = nI 0 := hv.resolve_right c_70
          have e1 : nWall s n (nI c) (nI 0) = upd s (42 + c) (nI 0) := by simp [nWall, aWall, okWall, blkW, b_6, b_14, i_c, show ¬ nI 0 = nI 1 by decide, show ¬ nI 1 = nI 0 by decide]
          rw [e1, wl_clr hc]
          refine qi_mk ⟨cr_wl hC hc _, ?_⟩
          rw [bI_bI, ← hWo.is hc]
          simp [nWall, aWall, okWall, blkW, b_6, b_14, i_c, show ¬ nI 0 = nI 1 by decide, show ¬ nI 1 = nI 0 by decide]
        · skip
          refine ex_aload_n (pc := 73) dX6_wall_73 rfl ?_
          refine ex_get (pc := 74) dX6_wall_74 fl_X6_10 hW rfl ?_
          refine ex_get (pc := 77) dX6_wall_77 fl_X6_149 hR.1 rfl ?_
          refine ex_iload_n (pc := 80) dX6_wall_80 rfl ?_
          refine cx_SL1l (pc := 81) dX6_wall_81 lk_X6_153 rfl (Nat.le_of_ble_eq_true rfl) (Nat.le_of_ble_eq_true rfl) (by omega) (c_bit _) (fun h_81 x_81 q_81 => ?_)
          obtain ⟨e_81, f_81⟩ := q_81
          rw [e_81, f_81]
          refine ex_lor (pc := 84) dX6_wall_84 ?_
          refine ex_goto (pc := 85) (tgt := 104) dX6_wall_85 (by decide) ?_
          refine ex_put (pc := 104) dX6_wall_104 fp_X6_149 hR.1 (Nat.le_of_ble_eq_true rfl) rfl rfl ?_
          rw [rm_w]
          refine ex_iload_n (pc := 107) dX6_wall_107 rfl ?_
          refine ex_ret dX6_wall_108 rfl ?_
          exact absurd c_70 c_22
      · skip
        refine ex_aload_n (pc := 25) dX6_wall_25 rfl ?_
        refine ex_get (pc := 26) dX6_wall_26 fl_X6_10 hW rfl ?_
        refine ex_iload_n (pc := 29) dX6_wall_29 rfl ?_
        refine cx_VL1i (pc := 30) dX6_wall_30 lk_X6_138 hR.1 rfl (Nat.le_of_ble_eq_true rfl) (Nat.le_of_ble_eq_true rfl) (by omega) (c_R_ownerOf hR _) (fun h_30 x_30 q_30 => ?_)
        obtain ⟨e_30, f_30⟩ := q_30
        rw [e_30, f_30]
        refine ex_ldc (pc := 33) dX6_wall_33 cn_X6_142 ?_
        refine ex_icmp_ne (pc := 35) (tgt := 49) dX6_wall_35 (by decide) (fun c_35 => ?_) (fun c_35 => ?_)
        · skip
          refine ex_ldc (pc := 49) dX6_wall_49 cn_X6_78 ?_
          refine ex_ret dX6_wall_51 rfl ?_
          subst c_22
          have k1 : (ownS s n (nI c)).isSome = true := (own_some hn8).mp c_35
          have kk : blkW s n (nI c) = true := by simp [blkW, k1]
          have e1 : (nWall s n (nI c) (nI 1)) = s := by simp [nWall, aWall, okWall, b_6, b_14, i_c, kk]
          rw [e1]
          refine qi_mk ⟨⟨hC, FrX.rf⟩, ?_⟩
          simp [nWall, aWall, okWall, b_6, b_14, i_c, kk]
        · skip
          refine ex_aload_n (pc := 38) dX6_wall_38 rfl ?_
          refine ex_get (pc := 39) dX6_wall_39 fl_X6_10 hW rfl ?_
          refine ex_get (pc := 42) dX6_wall_42 fl_X6_143 hR.1 rfl ?_
          refine ex_iload_n (pc := 45) dX6_wall_45 rfl ?_
          refine ex_icmp_ne (pc := 46) (tgt := 52) dX6_wall_46 (by decide) (fun c_46 => ?_) (fun c_46 => ?_)
          · skip
            refine ex_aload_n (pc := 52) dX6_wall_52 rfl ?_
            refine ex_get (pc := 53) dX6_wall_53 fl_X6_10 hW rfl ?_
            refine ex_iload_n (pc := 56) dX6_wall_56 rfl ?_
            refine cx_VL1i (pc := 57) dX6_wall_57 lk_X6_146 hR.1 rfl (Nat.le_of_ble_eq_true rfl) (Nat.le_of_ble_eq_true rfl) (by omega) (c_R_hasWall hR hc) (fun h_57 x_57 q_57 => ?_)
            obtain ⟨e_57, f_57⟩ := q_57
            rw [e_57, f_57]
            refine cx_SL1i (pc := 60) dX6_wall_60 lk_X6_112 rfl (Nat.le_of_ble_eq_true rfl) (Nat.le_of_ble_eq_true rfl) (by omega) (c_oneIf _) (fun h_60 x_60 q_60 => ?_)
            obtain ⟨e_60, f_60⟩ := q_60
            rw [e_60, f_60]
            refine sx_istore_n (pc := 63) dX6_wall_63 rfl (by decide) ?_
            show Ex _ _ _ _ _ _ [_, _, _, _] _ _ _
            refine ex_aload_n (pc := 64) dX6_wall_64 rfl ?_
            refine ex_get (pc := 65) dX6_wall_65 fl_X6_10 hW rfl ?_
            refine ex_iload_n (pc := 68) dX6_wall_68 rfl ?_
            refine ex_iconst (pc := 69) (v := (nI 1)) dX6_wall_69 (by decide) ?_
            refine ex_icmp_ne (pc := 70) (tgt := 88) dX6_wall_70 (by decide) (fun c_70 => ?_) (fun c_70 => ?_)
            · skip
              refine ex_aload_n (pc := 88) dX6_wall_88 rfl ?_
              refine ex_get (pc := 89) dX6_wall_89 fl_X6_10 hW rfl ?_
              refine ex_get (pc := 92) dX6_wall_92 fl_X6_149 hR.1 rfl ?_
              refine ex_iload_n (pc := 95) dX6_wall_95 rfl ?_
              refine cx_SL1l (pc := 96) dX6_wall_96 lk_X6_153 rfl (Nat.le_of_ble_eq_true rfl) (Nat.le_of_ble_eq_true rfl) (by omega) (c_bit _) (fun h_96 x_96 q_96 => ?_)
              obtain ⟨e_96, f_96⟩ := q_96
              rw [e_96, f_96]
              refine ex_ldc2_w (pc := 99) dX6_wall_99 cn_X6_157 ?_
              refine ex_lxor (pc := 102) dX6_wall_102 ?_
              refine ex_land (pc := 103) dX6_wall_103 ?_
              refine ex_put (pc := 104) dX6_wall_104 fp_X6_149 hR.1 (Nat.le_of_ble_eq_true rfl) rfl rfl ?_
              rw [rm_w]
              refine ex_iload_n (pc := 107) dX6_wall_107 rfl ?_
              refine ex_ret dX6_wall_108 rfl ?_
              exact absurd c_22 c_70
            · skip
              refine ex_aload_n (pc := 73) dX6_wall_73 rfl ?_
              refine ex_get (pc := 74) dX6_wall_74 fl_X6_10 hW rfl ?_
              refine ex_get (pc := 77) dX6_wall_77 fl_X6_149 hR.1 rfl ?_
              refine ex_iload_n (pc := 80) dX6_wall_80 rfl ?_
              refine cx_SL1l (pc := 81) dX6_wall_81 lk_X6_153 rfl (Nat.le_of_ble_eq_true rfl) (Nat.le_of_ble_eq_true rfl) (by omega) (c_bit _) (fun h_81 x_81 q_81 => ?_)
              obtain ⟨e_81, f_81⟩ := q_81
              rw [e_81, f_81]
              refine ex_lor (pc := 84) dX6_wall_84 ?_
              refine ex_goto (pc := 85) (tgt := 104) dX6_wall_85 (by decide) ?_
              refine ex_put (pc := 104) dX6_wall_104 fp_X6_149 hR.1 (Nat.le_of_ble_eq_true rfl) rfl rfl ?_
              rw [rm_w]
              refine ex_iload_n (pc := 107) dX6_wall_107 rfl ?_
              refine ex_ret dX6_wall_108 rfl ?_
              subst c_70
              have k1 : (ownS s n (nI c)).isSome = false := by rw [← Bool.not_eq_true, ← own_some hn8]; exact fun z => z c_35
              have k2 : ¬ s 7 = nI c := c_46
              have e1 : nWall s n (nI c) (nI 1) = upd s (42 + c) (nI 1) := by simp [nWall, aWall, okWall, blkW, b_6, b_14, i_c, k1, k2, show ¬ nI 0 = nI 1 by decide, show ¬ nI 1 = nI 0 by decide]
              rw [e1, wl_set hc]
              refine qi_mk ⟨cr_wl hC hc _, ?_⟩
              rw [bI_bI, ← hWo.is hc]
              simp [nWall, aWall, okWall, blkW, b_6, b_14, i_c, k1, k2, show ¬ nI 0 = nI 1 by decide, show ¬ nI 1 = nI 0 by decide]
          · skip
            refine ex_ldc (pc := 49) dX6_wall_49 cn_X6_78 ?_
            refine ex_ret dX6_wall_51 rfl ?_
            subst c_22
            have kk : blkW s n (nI c) = true := by unfold blkW; rw [decide_eq_true c_46, Bool.or_true]
            have e1 : (nWall s n (nI c) (nI 1)) = s := by simp [nWall, aWall, okWall, b_6, b_14, i_c, kk]
            rw [e1]
            refine qi_mk ⟨⟨hC, FrX.rf⟩, ?_⟩
            simp [nWall, aWall, okWall, b_6, b_14, i_c, kk]
    · skip
      have b_14 := bF c_14
      refine ex_ldc (pc := 17) dX6_wall_17 cn_X6_73 ?_
      refine ex_ret dX6_wall_19 rfl ?_
      have e1 : (nWall s n ce v) = s := by simp [nWall, aWall, okWall, blkW, b_6, b_14]
      rw [e1]
      refine qi_mk ⟨⟨hC, FrX.rf⟩, ?_⟩
      simp [nWall, aWall, okWall, blkW, b_6, b_14]
set_option maxHeartbeats 4000000 in
set_option maxRecDepth 100000 in
theorem c_M_wall {g : Gl} {d ks : Nat} {h : AH} {z s : Nat → Int32} {n nt : Nat} (hR : MR g h z s n nt) (hd : 2 ≤ d) (ce v : Int32) : Ex g mX7_wall d 0 ks 0 [some (.ref (g.1 + 75)), some (.int ce), some (.int v)] [] h (qi (fun h' r => (MR g h' z (nWall s n ce v) n nt ∧ FrX mX g h h') ∧ r = (aWall s n ce v))) := by
  have hM := hR.1
  have hP := hR.2.1
  have hn8 := hP.2.1
  have hN := hP.1
  refine ex_iload_n (pc := 0) dX7_wall_0 rfl ?_
  refine cx_SL1i (pc := 1) dX7_wall_1 lk_X7_156 rfl (Nat.le_of_ble_eq_true rfl) (Nat.le_of_ble_eq_true rfl) (by omega) (c_M_cel (by omega) _) (fun h_1 x_1 q_1 => ?_)
  obtain ⟨e_1, f_1⟩ := q_1
  rw [e_1, f_1]
  refine ex_if_eq (pc := 4) (tgt := 17) dX7_wall_4 (by decide) (fun c_4 => ?_) (fun c_4 => ?_)
  · skip
    have b_4 := bF c_4
    refine ex_ldc (pc := 17) dX7_wall_17 cn_X7_161 ?_
    refine ex_ret dX7_wall_19 rfl ?_
    have e1 : (nWall s n ce v) = s := by simp [nWall, aWall, okWall, blkW, b_4]
    rw [e1]
    refine qi_mk ⟨⟨hR, FrX.rf⟩, ?_⟩
    simp [nWall, aWall, okWall, blkW, b_4]
  · skip
    have b_4 := bT c_4
    refine ex_iload_n (pc := 7) dX7_wall_7 rfl ?_
    refine ex_i2l (pc := 8) dX7_wall_8 ?_
    refine ex_lconst (pc := 9) (v := 0) dX7_wall_9 (by decide) ?_
    refine ex_lconst (pc := 10) (v := 1) dX7_wall_10 (by decide) ?_
    refine cx_SL3i (pc := 11) dX7_wall_11 lk_X7_69 rfl (Nat.le_of_ble_eq_true rfl) (Nat.le_of_ble_eq_true rfl) (by omega) (c_M_in _ (m := 2) (by decide)) (fun h_11 x_11 q_11 => ?_)
    obtain ⟨e_11, f_11⟩ := q_11
    rw [e_11, f_11]
    refine ex_if_ne (pc := 14) (tgt := 20) dX7_wall_14 (by decide) (fun c_14 => ?_) (fun c_14 => ?_)
    · skip
      have b_14 := bT c_14
      obtain ⟨c, hc, rfl⟩ := bw_ex b_4
      have i_c : ixI (nI c) = c := iK (by omega)
      refine ex_iload_n (pc := 20) dX7_wall_20 rfl ?_
      refine ex_iconst (pc := 21) (v := (nI 1)) dX7_wall_21 (by decide) ?_
      refine ex_icmp_ne (pc := 22) (tgt := 47) dX7_wall_22 (by decide) (fun c_22 => ?_) (fun c_22 => ?_)
      · skip
        refine ex_aload_n (pc := 47) dX7_wall_47 rfl ?_
        refine ex_bipush (pc := 48) (v := (nI 42)) dX7_wall_48 (by decide) ?_
        refine ex_iload_n (pc := 50) dX7_wall_50 rfl ?_
        refine ex_iadd (pc := 51) dX7_wall_51 ?_
        refine ex_iload_n (pc := 52) dX7_wall_52 rfl ?_
        rw [nI_add]
        refine cx_VL2i (pc := 53) dX7_wall_53 lk_X7_188 hM.1 rfl (Nat.le_of_ble_eq_true rfl) (Nat.le_of_ble_eq_true rfl) (by omega) (c_M_changes hM (k := 42 + c) (by omega) _) (fun h_53 x_53 q_53 => ?_)
        obtain ⟨e_53, f_53⟩ := q_53
        rw [f_53]
        refine ex_ret dX7_wall_56 rfl ?_
        have kk : okWall s n (nI c) v = true := by simp [okWall, c_22]
        have e1 : (nWall s n (nI c) v) = upd s (42 + c) v := by simp [nWall, aWall, b_4, b_14, i_c, kk]
        rw [e1]
        refine qi_mk ⟨by rw [e_53]; exact mr_st hR (lowE.up (by omega) (by omega)) hP.wl, ?_⟩
        simp [nWall, aWall, b_4, b_14, i_c, kk]
      · skip
        refine ex_aload_n (pc := 25) dX7_wall_25 rfl ?_
        refine ex_iload_n (pc := 26) dX7_wall_26 rfl ?_
        refine cx_VL1i (pc := 27) dX7_wall_27 lk_X7_84 hM.1 rfl (Nat.le_of_ble_eq_true rfl) (Nat.le_of_ble_eq_true rfl) (by omega) (c_M_whose hM hN hn8 (by omega) _) (fun h_27 x_27 q_27 => ?_)
        obtain ⟨e_27, f_27⟩ := q_27
        rw [e_27, f_27]
        refine ex_if_ge (pc := 30) (tgt := 44) dX7_wall_30 (by decide) (fun c_30 => ?_) (fun c_30 => ?_)
        · skip
          refine ex_ldc (pc := 44) dX7_wall_44 cn_X7_165 ?_
          refine ex_ret dX7_wall_46 rfl ?_
          subst c_22
          have k1 : (ownS s n (nI c)).isSome = true := (own_ge hn8).mp c_30
          have kk : blkW s n (nI c) = true := by simp [blkW, k1]
          have e1 : (nWall s n (nI c) (nI 1)) = s := by simp [nWall, aWall, okWall, b_4, b_14, i_c, kk]
          rw [e1]
          refine qi_mk ⟨⟨hR, FrX.rf⟩, ?_⟩
          simp [nWall, aWall, okWall, b_4, b_14, i_c, kk]
        · skip
          refine ex_aload_n (pc := 33) dX7_wall_33 rfl ?_
          refine ex_get (pc := 34) dX7_wall_34 fl_X7_7 hM.1 rfl ?_
          refine ex_bipush (pc := 37) (v := (nI 7)) dX7_wall_37 (by decide) ?_
          refine ex_ildn (k := 7) (pc := 39) dX7_wall_39 hM.2 rfl (by decide) (by decide) ?_
          refine ex_iload_n (pc := 40) dX7_wall_40 rfl ?_
          refine ex_icmp_ne (pc := 41) (tgt := 47) dX7_wall_41 (by decide) (fun c_41 => ?_) (fun c_41 => ?_)
          · skip
            refine ex_aload_n (pc := 47) dX7_wall_47 rfl ?_
            refine ex_bipush (pc := 48) (v := (nI 42)) dX7_wall_48 (by decide) ?_
            refine ex_iload_n (pc := 50) dX7_wall_50 rfl ?_
            refine ex_iadd (pc := 51) dX7_wall_51 ?_
            refine ex_iload_n (pc := 52) dX7_wall_52 rfl ?_
            rw [nI_add]
            refine cx_VL2i (pc := 53) dX7_wall_53 lk_X7_188 hM.1 rfl (Nat.le_of_ble_eq_true rfl) (Nat.le_of_ble_eq_true rfl) (by omega) (c_M_changes hM (k := 42 + c) (by omega) _) (fun h_53 x_53 q_53 => ?_)
            obtain ⟨e_53, f_53⟩ := q_53
            rw [f_53]
            refine ex_ret dX7_wall_56 rfl ?_
            subst c_22
            have k1 : (ownS s n (nI c)).isSome = false := by rw [← Bool.not_eq_true, ← own_ge hn8]; exact c_30
            have k2 : ¬ s 7 = nI c := c_41
            have kk : okWall s n (nI c) (nI 1) = true := by simp [okWall, blkW, k1, k2]
            have e1 : (nWall s n (nI c) (nI 1)) = upd s (42 + c) (nI 1) := by simp [nWall, aWall, b_4, b_14, i_c, kk]
            rw [e1]
            refine qi_mk ⟨by rw [e_53]; exact mr_st hR (lowE.up (by omega) (by omega)) hP.wl, ?_⟩
            simp [nWall, aWall, b_4, b_14, i_c, kk]
          · skip
            refine ex_ldc (pc := 44) dX7_wall_44 cn_X7_165 ?_
            refine ex_ret dX7_wall_46 rfl ?_
            subst c_22
            have kk : blkW s n (nI c) = true := by unfold blkW; rw [decide_eq_true c_41, Bool.or_true]
            have e1 : (nWall s n (nI c) (nI 1)) = s := by simp [nWall, aWall, okWall, b_4, b_14, i_c, kk]
            rw [e1]
            refine qi_mk ⟨⟨hR, FrX.rf⟩, ?_⟩
            simp [nWall, aWall, okWall, b_4, b_14, i_c, kk]
    · skip
      have b_14 := bF c_14
      refine ex_ldc (pc := 17) dX7_wall_17 cn_X7_161 ?_
      refine ex_ret dX7_wall_19 rfl ?_
      have e1 : (nWall s n ce v) = s := by simp [nWall, aWall, okWall, blkW, b_4, b_14]
      rw [e1]
      refine qi_mk ⟨⟨hR, FrX.rf⟩, ?_⟩
      simp [nWall, aWall, okWall, blkW, b_4, b_14]
set_option maxHeartbeats 4000000 in
set_option maxRecDepth 100000 in
theorem c_W_at {g : Gl} {d ks : Nat} {h : AH} {ik wc : Int32} {s : Nat → Int32} {n nt : Nat} (hW : h[0]? = some (wtC g ik wc)) (hC : CR g h 1 s n nt) (hWo : WOk s) (hd : 2 ≤ d) (ce v : Int32) : Ex g mX6_at d 0 ks 0 [some (.ref (g.1 + 0)), some (.int ce), some (.int v)] [] h (qi (fun h' r => h' = h ∧ r = (aAt s n ce v))) := by
  have hR := hC.1
  have hP := hC.2.1
  have hn8 := hP.2.1
  have hN := hR.2.1
  obtain ⟨fp, hfp, hfp2⟩ := hR.2.2.2.1
  refine ex_iload_n (pc := 0) dX6_at_0 rfl ?_
  refine ex_bipush (pc := 1) (v := (nI 48)) dX6_at_1 (by decide) ?_
  refine cx_SL2i (pc := 3) dX6_at_3 lk_X6_69 rfl (Nat.le_of_ble_eq_true rfl) (Nat.le_of_ble_eq_true rfl) (by omega) (c_ib _ _) (fun h_3 x_3 q_3 => ?_)
  obtain ⟨e_3, f_3⟩ := q_3
  rw [e_3, f_3]
  refine ex_if_eq (pc := 6) (tgt := 17) dX6_at_6 (by decide) (fun c_6 => ?_) (fun c_6 => ?_)
  · skip
    have b_6 := bF c_6
    refine ex_ldc (pc := 17) dX6_at_17 cn_X6_73 ?_
    refine ex_ret dX6_at_19 rfl ?_
    refine qi_mk ⟨rfl, ?_⟩
    simp [aAt, b_6]
  · skip
    have b_6 := bT c_6
    refine ex_iload_n (pc := 9) dX6_at_9 rfl ?_
    refine ex_iconst (pc := 10) (v := (nI 2)) dX6_at_10 (by decide) ?_
    refine cx_SL2i (pc := 11) dX6_at_11 lk_X6_69 rfl (Nat.le_of_ble_eq_true rfl) (Nat.le_of_ble_eq_true rfl) (by omega) (c_ib _ _) (fun h_11 x_11 q_11 => ?_)
    obtain ⟨e_11, f_11⟩ := q_11
    rw [e_11, f_11]
    refine ex_if_ne (pc := 14) (tgt := 20) dX6_at_14 (by decide) (fun c_14 => ?_) (fun c_14 => ?_)
    · skip
      have b_14 := bT c_14
      obtain ⟨c, hc, rfl⟩ := bw_ex b_6
      have i_c : ixI (nI c) = c := iK (by omega)
      refine ex_iload_n (pc := 20) dX6_at_20 rfl ?_
      refine ex_if_ne (pc := 21) (tgt := 35) dX6_at_21 (by decide) (fun c_21 => ?_) (fun c_21 => ?_)
      · skip
        refine ex_aload_n (pc := 35) dX6_at_35 rfl ?_
        refine ex_get (pc := 36) dX6_at_36 fl_X6_10 hW rfl ?_
        refine ex_iload_n (pc := 39) dX6_at_39 rfl ?_
        refine cx_VL1i (pc := 40) dX6_at_40 lk_X6_146 hR.1 rfl (Nat.le_of_ble_eq_true rfl) (Nat.le_of_ble_eq_true rfl) (by omega) (c_R_hasWall hR hc) (fun h_40 x_40 q_40 => ?_)
        obtain ⟨e_40, f_40⟩ := q_40
        rw [e_40, f_40]
        refine cx_SL1i (pc := 43) dX6_at_43 lk_X6_112 rfl (Nat.le_of_ble_eq_true rfl) (Nat.le_of_ble_eq_true rfl) (by omega) (c_oneIf _) (fun h_43 x_43 q_43 => ?_)
        obtain ⟨e_43, f_43⟩ := q_43
        rw [e_43, f_43]
        refine ex_ret dX6_at_46 rfl ?_
        refine qi_mk ⟨rfl, ?_⟩
        rw [bI_bI, ← hWo.is hc]
        simp only [aAt, b_6, b_14, i_c, show ¬ v = nI 0 from c_21, Bool.and_self, Bool.and_true, Bool.true_and, Bool.and_false, Bool.false_and, Bool.or_true, Bool.true_or, Bool.or_false, Bool.false_or, Bool.not_true, Bool.not_false, Bool.false_eq_true, ↓reduceIte]
      · skip
        have c_21 : v = nI 0 := c_21
        refine ex_aload_n (pc := 24) dX6_at_24 rfl ?_
        refine ex_get (pc := 25) dX6_at_25 fl_X6_10 hW rfl ?_
        refine ex_iload_n (pc := 28) dX6_at_28 rfl ?_
        refine cx_VL1i (pc := 29) dX6_at_29 lk_X6_138 hR.1 rfl (Nat.le_of_ble_eq_true rfl) (Nat.le_of_ble_eq_true rfl) (by omega) (c_R_ownerOf hR _) (fun h_29 x_29 q_29 => ?_)
        obtain ⟨e_29, f_29⟩ := q_29
        rw [e_29, f_29]
        refine ex_goto (pc := 32) (tgt := 46) dX6_at_32 (by decide) ?_
        refine ex_ret dX6_at_46 rfl ?_
        refine qi_mk ⟨rfl, ?_⟩
        simp only [aAt, b_6, b_14, i_c, c_21, show bw (nI 0) 2 = true by decide, Bool.and_self, Bool.and_true, Bool.true_and, Bool.and_false, Bool.false_and, Bool.or_true, Bool.true_or, Bool.or_false, Bool.false_or, Bool.not_true, Bool.not_false, Bool.false_eq_true, ↓reduceIte]
    · skip
      have b_14 := bF c_14
      refine ex_ldc (pc := 17) dX6_at_17 cn_X6_73 ?_
      refine ex_ret dX6_at_19 rfl ?_
      refine qi_mk ⟨rfl, ?_⟩
      simp [aAt, b_6, b_14]
set_option maxHeartbeats 4000000 in
set_option maxRecDepth 100000 in
theorem c_M_at {g : Gl} {d ks : Nat} {h : AH} {z s : Nat → Int32} {n nt : Nat} (hR : MR g h z s n nt) (hd : 2 ≤ d) (ce v : Int32) : Ex g mX7_at d 0 ks 0 [some (.ref (g.1 + 75)), some (.int ce), some (.int v)] [] h (qi (fun h' r => h' = h ∧ r = (aAt s n ce v))) := by
  have hM := hR.1
  have hP := hR.2.1
  have hn8 := hP.2.1
  have hN := hP.1
  refine ex_iload_n (pc := 0) dX7_at_0 rfl ?_
  refine cx_SL1i (pc := 1) dX7_at_1 lk_X7_156 rfl (Nat.le_of_ble_eq_true rfl) (Nat.le_of_ble_eq_true rfl) (by omega) (c_M_cel (by omega) _) (fun h_1 x_1 q_1 => ?_)
  obtain ⟨e_1, f_1⟩ := q_1
  rw [e_1, f_1]
  refine ex_if_eq (pc := 4) (tgt := 17) dX7_at_4 (by decide) (fun c_4 => ?_) (fun c_4 => ?_)
  · skip
    have b_4 := bF c_4
    refine ex_ldc (pc := 17) dX7_at_17 cn_X7_161 ?_
    refine ex_ret dX7_at_19 rfl ?_
    refine qi_mk ⟨rfl, ?_⟩
    simp [aAt, b_4]
  · skip
    have b_4 := bT c_4
    refine ex_iload_n (pc := 7) dX7_at_7 rfl ?_
    refine ex_i2l (pc := 8) dX7_at_8 ?_
    refine ex_lconst (pc := 9) (v := 0) dX7_at_9 (by decide) ?_
    refine ex_lconst (pc := 10) (v := 1) dX7_at_10 (by decide) ?_
    refine cx_SL3i (pc := 11) dX7_at_11 lk_X7_69 rfl (Nat.le_of_ble_eq_true rfl) (Nat.le_of_ble_eq_true rfl) (by omega) (c_M_in _ (m := 2) (by decide)) (fun h_11 x_11 q_11 => ?_)
    obtain ⟨e_11, f_11⟩ := q_11
    rw [e_11, f_11]
    refine ex_if_ne (pc := 14) (tgt := 20) dX7_at_14 (by decide) (fun c_14 => ?_) (fun c_14 => ?_)
    · skip
      have b_14 := bT c_14
      obtain ⟨c, hc, rfl⟩ := bw_ex b_4
      have i_c : ixI (nI c) = c := iK (by omega)
      refine ex_iload_n (pc := 20) dX7_at_20 rfl ?_
      refine ex_if_ne (pc := 21) (tgt := 35) dX7_at_21 (by decide) (fun c_21 => ?_) (fun c_21 => ?_)
      · skip
        refine ex_aload_n (pc := 35) dX7_at_35 rfl ?_
        refine ex_get (pc := 36) dX7_at_36 fl_X7_7 hM.1 rfl ?_
        refine ex_bipush (pc := 39) (v := (nI 42)) dX7_at_39 (by decide) ?_
        refine ex_iload_n (pc := 41) dX7_at_41 rfl ?_
        refine ex_iadd (pc := 42) dX7_at_42 ?_
        rw [nI_add]
        refine ex_ildn (k := 42 + c) (pc := 43) dX7_at_43 hM.2 rfl (by omega) (by decide) ?_
        refine ex_ret dX7_at_44 rfl ?_
        refine qi_mk ⟨rfl, ?_⟩
        simp only [aAt, b_4, b_14, i_c, show ¬ v = nI 0 from c_21, Bool.and_self, Bool.and_true, Bool.true_and, Bool.and_false, Bool.false_and, Bool.or_true, Bool.true_or, Bool.or_false, Bool.false_or, Bool.not_true, Bool.not_false, Bool.false_eq_true, ↓reduceIte]
      · skip
        have c_21 : v = nI 0 := c_21
        refine ex_aload_n (pc := 24) dX7_at_24 rfl ?_
        refine ex_iload_n (pc := 25) dX7_at_25 rfl ?_
        refine cx_VL1i (pc := 26) dX7_at_26 lk_X7_84 hM.1 rfl (Nat.le_of_ble_eq_true rfl) (Nat.le_of_ble_eq_true rfl) (by omega) (c_M_whose hM hN hn8 (by omega) _) (fun h_26 x_26 q_26 => ?_)
        obtain ⟨e_26, f_26⟩ := q_26
        rw [e_26, f_26]
        refine cx_SL1i (pc := 29) dX7_at_29 lk_X7_195 rfl (Nat.le_of_ble_eq_true rfl) (Nat.le_of_ble_eq_true rfl) (by omega) (c_M_orNone _) (fun h_29 x_29 q_29 => ?_)
        obtain ⟨e_29, f_29⟩ := q_29
        rw [e_29, f_29, orN_own hn8]
        refine ex_goto (pc := 32) (tgt := 44) dX7_at_32 (by decide) ?_
        refine ex_ret dX7_at_44 rfl ?_
        refine qi_mk ⟨rfl, ?_⟩
        simp only [aAt, b_4, b_14, i_c, c_21, show bw (nI 0) 2 = true by decide, Bool.and_self, Bool.and_true, Bool.true_and, Bool.and_false, Bool.false_and, Bool.or_true, Bool.true_or, Bool.or_false, Bool.false_or, Bool.not_true, Bool.not_false, Bool.false_eq_true, ↓reduceIte]
    · skip
      have b_14 := bF c_14
      refine ex_ldc (pc := 17) dX7_at_17 cn_X7_161 ?_
      refine ex_ret dX7_at_19 rfl ?_
      refine qi_mk ⟨rfl, ?_⟩
      simp [aAt, b_4, b_14]
set_option maxHeartbeats 4000000 in
set_option maxRecDepth 100000 in
theorem c_W_thief {g : Gl} {d ks : Nat} {h : AH} {ik wc : Int32} {s : Nat → Int32} {n nt : Nat} (hW : h[0]? = some (wtC g ik wc)) (hC : CR g h 1 s n nt) (hd : 2 ≤ d) (ce : Int32) : Ex g mX6_thief d 0 ks 0 [some (.ref (g.1 + 0)), some (.int ce), none] [] h (qi (fun h' r => (CR g h' 1 (nThief s ce) n nt ∧ FrX (rmX 1) g h h') ∧ r = (aThief s ce))) := by
  have hR := hC.1
  have hP := hC.2.1
  have hn8 := hP.2.1
  have hN := hR.2.1
  obtain ⟨fp, hfp, hfp2⟩ := hR.2.2.2.1
  refine ex_iload_n (pc := 0) dX6_thief_0 rfl ?_
  refine ex_bipush (pc := 1) (v := (nI 48)) dX6_thief_1 (by decide) ?_
  refine cx_SL2i (pc := 3) dX6_thief_3 lk_X6_69 rfl (Nat.le_of_ble_eq_true rfl) (Nat.le_of_ble_eq_true rfl) (by omega) (c_ib _ _) (fun h_3 x_3 q_3 => ?_)
  obtain ⟨e_3, f_3⟩ := q_3
  rw [e_3, f_3]
  refine ex_if_ne (pc := 6) (tgt := 12) dX6_thief_6 (by decide) (fun c_6 => ?_) (fun c_6 => ?_)
  · skip
    have b_6 := bT c_6
    obtain ⟨c, hc, rfl⟩ := bw_ex b_6
    have i_c : ixI (nI c) = c := iK (by omega)
    refine ex_aload_n (pc := 12) dX6_thief_12 rfl ?_
    refine ex_get (pc := 13) dX6_thief_13 fl_X6_10 hW rfl ?_
    refine ex_iload_n (pc := 16) dX6_thief_16 rfl ?_
    refine cx_VL1i (pc := 17) dX6_thief_17 lk_X6_146 hR.1 rfl (Nat.le_of_ble_eq_true rfl) (Nat.le_of_ble_eq_true rfl) (by omega) (c_R_hasWall hR hc) (fun h_17 x_17 q_17 => ?_)
    obtain ⟨e_17, f_17⟩ := q_17
    rw [e_17, f_17]
    refine ex_if_eq (pc := 20) (tgt := 26) dX6_thief_20 (by decide) (fun c_20 => ?_) (fun c_20 => ?_)
    · skip
      refine ex_aload_n (pc := 26) dX6_thief_26 rfl ?_
      refine ex_get (pc := 27) dX6_thief_27 fl_X6_10 hW rfl ?_
      refine ex_get (pc := 30) dX6_thief_30 fl_X6_143 hR.1 rfl ?_
      refine sx_istore_n (pc := 33) dX6_thief_33 rfl (by decide) ?_
      show Ex _ _ _ _ _ _ [_, _, _] _ _ _
      refine ex_aload_n (pc := 34) dX6_thief_34 rfl ?_
      refine ex_get (pc := 35) dX6_thief_35 fl_X6_10 hW rfl ?_
      refine ex_iload_n (pc := 38) dX6_thief_38 rfl ?_
      refine ex_put (pc := 39) dX6_thief_39 fp_X6_143 hR.1 (Nat.le_of_ble_eq_true rfl) rfl rfl ?_
      rw [rm_7]
      refine ex_iload_n (pc := 42) dX6_thief_42 rfl ?_
      refine ex_ret dX6_thief_43 rfl ?_
      have k1 : wll s c = false := by unfold wll; exact decide_eq_false (bI_0.mp c_20)
      have e1 : (nThief s (nI c)) = upd s 7 (nI c) := by simp [nThief, aThief, b_6, i_c, k1]
      rw [e1]
      refine qi_mk ⟨cr_fld hC _ (by omega) (by omega), ?_⟩
      simp [nThief, aThief, b_6, i_c, k1]
    · skip
      refine ex_ldc (pc := 23) dX6_thief_23 cn_X6_78 ?_
      refine ex_ret dX6_thief_25 rfl ?_
      have k1 : wll s c = true := by unfold wll; exact decide_eq_true (Decidable.not_not.mp (fun q => c_20 (bI_f q)))
      have e1 : (nThief s (nI c)) = s := by simp [nThief, aThief, b_6, i_c, k1]
      rw [e1]
      refine qi_mk ⟨⟨hC, FrX.rf⟩, ?_⟩
      simp [nThief, aThief, b_6, i_c, k1]
  · skip
    have b_6 := bF c_6
    refine ex_ldc (pc := 9) dX6_thief_9 cn_X6_73 ?_
    refine ex_ret dX6_thief_11 rfl ?_
    have e1 : (nThief s ce) = s := by simp [nThief, aThief, b_6]
    rw [e1]
    refine qi_mk ⟨⟨hC, FrX.rf⟩, ?_⟩
    simp [nThief, aThief, b_6]
set_option maxHeartbeats 4000000 in
set_option maxRecDepth 100000 in
theorem c_M_thief {g : Gl} {d ks : Nat} {h : AH} {z s : Nat → Int32} {n nt : Nat} (hR : MR g h z s n nt) (hd : 2 ≤ d) (ce : Int32) : Ex g mX7_thief d 0 ks 0 [some (.ref (g.1 + 75)), some (.int ce)] [] h (qi (fun h' r => (MR g h' z (nThief s ce) n nt ∧ FrX mX g h h') ∧ r = (aThief s ce))) := by
  have hM := hR.1
  have hP := hR.2.1
  have hn8 := hP.2.1
  have hN := hP.1
  refine ex_iload_n (pc := 0) dX7_thief_0 rfl ?_
  refine cx_SL1i (pc := 1) dX7_thief_1 lk_X7_156 rfl (Nat.le_of_ble_eq_true rfl) (Nat.le_of_ble_eq_true rfl) (by omega) (c_M_cel (by omega) _) (fun h_1 x_1 q_1 => ?_)
  obtain ⟨e_1, f_1⟩ := q_1
  rw [e_1, f_1]
  refine ex_if_ne (pc := 4) (tgt := 10) dX7_thief_4 (by decide) (fun c_4 => ?_) (fun c_4 => ?_)
  · skip
    have b_4 := bT c_4
    obtain ⟨c, hc, rfl⟩ := bw_ex b_4
    have i_c : ixI (nI c) = c := iK (by omega)
    refine ex_aload_n (pc := 10) dX7_thief_10 rfl ?_
    refine ex_iload_n (pc := 11) dX7_thief_11 rfl ?_
    refine cx_VL1i (pc := 12) dX7_thief_12 lk_X7_80 hM.1 rfl (Nat.le_of_ble_eq_true rfl) (Nat.le_of_ble_eq_true rfl) (by omega) (c_M_hasWall hM hc) (fun h_12 x_12 q_12 => ?_)
    obtain ⟨e_12, f_12⟩ := q_12
    rw [e_12, f_12]
    refine ex_if_eq (pc := 15) (tgt := 23) dX7_thief_15 (by decide) (fun c_15 => ?_) (fun c_15 => ?_)
    · skip
      refine ex_aload_n (pc := 23) dX7_thief_23 rfl ?_
      refine ex_bipush (pc := 24) (v := (nI 7)) dX7_thief_24 (by decide) ?_
      refine ex_iload_n (pc := 26) dX7_thief_26 rfl ?_
      refine cx_VL2i (pc := 27) dX7_thief_27 lk_X7_188 hM.1 rfl (Nat.le_of_ble_eq_true rfl) (Nat.le_of_ble_eq_true rfl) (by omega) (c_M_changes hM (k := 7) (by omega) _) (fun h_27 x_27 q_27 => ?_)
      obtain ⟨e_27, f_27⟩ := q_27
      rw [f_27]
      refine ex_ret dX7_thief_30 rfl ?_
      have k1 : wll s c = false := by unfold wll; exact decide_eq_false (bI_0.mp c_15)
      have e1 : (nThief s (nI c)) = upd s 7 (nI c) := by simp [nThief, aThief, b_4, i_c, k1]
      rw [e1]
      refine qi_mk ⟨by rw [e_27]; exact mr_st hR (lowE.up (by omega) (by omega)) (hP.low (by omega) (by omega)), ?_⟩
      simp [nThief, aThief, b_4, i_c, k1]
    · skip
      refine ex_ldc (pc := 18) dX7_thief_18 cn_X7_165 ?_
      refine ex_goto (pc := 20) (tgt := 30) dX7_thief_20 (by decide) ?_
      refine ex_ret dX7_thief_30 rfl ?_
      have k1 : wll s c = true := by unfold wll; exact decide_eq_true (Decidable.not_not.mp (fun q => c_15 (bI_f q)))
      have e1 : (nThief s (nI c)) = s := by simp [nThief, aThief, b_4, i_c, k1]
      rw [e1]
      refine qi_mk ⟨⟨hR, FrX.rf⟩, ?_⟩
      simp [nThief, aThief, b_4, i_c, k1]
  · skip
    have b_4 := bF c_4
    refine ex_ldc (pc := 7) dX7_thief_7 cn_X7_161 ?_
    refine ex_ret dX7_thief_9 rfl ?_
    have e1 : (nThief s ce) = s := by simp [nThief, aThief, b_4]
    rw [e1]
    refine qi_mk ⟨⟨hR, FrX.rf⟩, ?_⟩
    simp [nThief, aThief, b_4]
set_option maxHeartbeats 4000000 in
set_option maxRecDepth 100000 in
theorem c_W_rule {g : Gl} {d ks : Nat} {h : AH} {ik wc : Int32} {s : Nat → Int32} {n nt : Nat} (hW : h[0]? = some (wtC g ik wc)) (hC : CR g h 1 s n nt) (hd : 1 ≤ d) (wh v : Int32) : Ex g mX6_rule d 0 ks 0 [some (.ref (g.1 + 0)), some (.int wh), some (.int v), none] [] h (qi (fun h' r => (CR g h' 1 (nRule s wh v) n nt ∧ FrX (rmX 1) g h h') ∧ r = (aRule s wh v))) := by
  have hR := hC.1
  have hP := hC.2.1
  have hn8 := hP.2.1
  have hN := hR.2.1
  obtain ⟨fp, hfp, hfp2⟩ := hR.2.2.2.1
  refine ex_iload_n (pc := 0) dX6_rule_0 rfl ?_
  refine ex_iconst (pc := 1) (v := (nI 2)) dX6_rule_1 (by decide) ?_
  refine cx_SL2i (pc := 2) dX6_rule_2 lk_X6_69 rfl (Nat.le_of_ble_eq_true rfl) (Nat.le_of_ble_eq_true rfl) (by omega) (c_ib _ _) (fun h_2 x_2 q_2 => ?_)
  obtain ⟨e_2, f_2⟩ := q_2
  rw [e_2, f_2]
  refine ex_if_eq (pc := 5) (tgt := 17) dX6_rule_5 (by decide) (fun c_5 => ?_) (fun c_5 => ?_)
  · skip
    have b_5 := bF c_5
    refine ex_ldc (pc := 17) dX6_rule_17 cn_X6_73 ?_
    refine ex_ret dX6_rule_19 rfl ?_
    have e1 : (nRule s wh v) = s := by simp [nRule, aRule, b_5]
    rw [e1]
    refine qi_mk ⟨⟨hC, FrX.rf⟩, ?_⟩
    simp [nRule, aRule, b_5]
  · skip
    have b_5 := bT c_5
    refine ex_iload_n (pc := 8) dX6_rule_8 rfl ?_
    refine ex_bipush (pc := 9) (v := (nI 101)) dX6_rule_9 (by decide) ?_
    refine cx_SL2i (pc := 11) dX6_rule_11 lk_X6_69 rfl (Nat.le_of_ble_eq_true rfl) (Nat.le_of_ble_eq_true rfl) (by omega) (c_ib _ _) (fun h_11 x_11 q_11 => ?_)
    obtain ⟨e_11, f_11⟩ := q_11
    rw [e_11, f_11]
    refine ex_if_ne (pc := 14) (tgt := 20) dX6_rule_14 (by decide) (fun c_14 => ?_) (fun c_14 => ?_)
    · skip
      have b_14 := bT c_14
      obtain ⟨w0, hw0, rfl⟩ := bw_ex b_5
      have i_w : ixI (nI w0) = w0 := iK (by omega)
      refine ex_iload_n (pc := 20) dX6_rule_20 rfl ?_
      refine ex_if_ne (pc := 21) (tgt := 43) dX6_rule_21 (by decide) (fun c_21 => ?_) (fun c_21 => ?_)
      · skip
        refine ex_aload_n (pc := 43) dX6_rule_43 rfl ?_
        refine ex_get (pc := 44) dX6_rule_44 fl_X6_10 hW rfl ?_
        refine ex_get (pc := 47) dX6_rule_47 fl_X6_162 hR.1 rfl ?_
        refine sx_istore_n (pc := 50) dX6_rule_50 rfl (by decide) ?_
        show Ex _ _ _ _ _ _ [_, _, _, _] _ _ _
        refine ex_aload_n (pc := 51) dX6_rule_51 rfl ?_
        refine ex_get (pc := 52) dX6_rule_52 fl_X6_10 hW rfl ?_
        refine ex_iload_n (pc := 55) dX6_rule_55 rfl ?_
        refine ex_put (pc := 56) dX6_rule_56 fp_X6_162 hR.1 (Nat.le_of_ble_eq_true rfl) rfl rfl ?_
        rw [rm_4]
        refine ex_iload_n (pc := 59) dX6_rule_59 rfl ?_
        refine ex_ret dX6_rule_60 rfl ?_
        obtain rfl : w0 = 1 := by
          have q : ¬ w0 = 0 := fun z => c_21 (by rw [z]; rfl)
          omega
        have e1 : (nRule s (nI 1) v) = upd s 4 v := by simp [nRule, aRule, b_5, b_14, show ixI (nI 1) = 1 by decide]
        rw [e1]
        refine qi_mk ⟨cr_fld hC _ (by omega) (by omega), ?_⟩
        simp [nRule, aRule, b_5, b_14, show ixI (nI 1) = 1 by decide]
      · skip
        refine ex_aload_n (pc := 24) dX6_rule_24 rfl ?_
        refine ex_get (pc := 25) dX6_rule_25 fl_X6_10 hW rfl ?_
        refine ex_get (pc := 28) dX6_rule_28 fl_X6_159 hR.1 rfl ?_
        refine sx_istore_n (pc := 31) dX6_rule_31 rfl (by decide) ?_
        show Ex _ _ _ _ _ _ [_, _, _, _] _ _ _
        refine ex_aload_n (pc := 32) dX6_rule_32 rfl ?_
        refine ex_get (pc := 33) dX6_rule_33 fl_X6_10 hW rfl ?_
        refine ex_iload_n (pc := 36) dX6_rule_36 rfl ?_
        refine ex_put (pc := 37) dX6_rule_37 fp_X6_159 hR.1 (Nat.le_of_ble_eq_true rfl) rfl rfl ?_
        rw [rm_3]
        refine ex_goto (pc := 40) (tgt := 59) dX6_rule_40 (by decide) ?_
        refine ex_iload_n (pc := 59) dX6_rule_59 rfl ?_
        refine ex_ret dX6_rule_60 rfl ?_
        obtain rfl : w0 = 0 := by
          exact (nI_eq (by omega) (by omega)).mp c_21
        have e1 : (nRule s (nI 0) v) = upd s 3 v := by simp [nRule, aRule, b_5, b_14, show ixI (nI 0) = 0 by decide]
        rw [e1]
        refine qi_mk ⟨cr_fld hC _ (by omega) (by omega), ?_⟩
        simp [nRule, aRule, b_5, b_14, show ixI (nI 0) = 0 by decide]
    · skip
      have b_14 := bF c_14
      refine ex_ldc (pc := 17) dX6_rule_17 cn_X6_73 ?_
      refine ex_ret dX6_rule_19 rfl ?_
      have e1 : (nRule s wh v) = s := by simp [nRule, aRule, b_5, b_14]
      rw [e1]
      refine qi_mk ⟨⟨hC, FrX.rf⟩, ?_⟩
      simp [nRule, aRule, b_5, b_14]
set_option maxHeartbeats 4000000 in
set_option maxRecDepth 100000 in
theorem c_M_rule {g : Gl} {d ks : Nat} {h : AH} {z s : Nat → Int32} {n nt : Nat} (hR : MR g h z s n nt) (hd : 1 ≤ d) (wh v : Int32) : Ex g mX7_rule d 0 ks 0 [some (.ref (g.1 + 75)), some (.int wh), some (.int v)] [] h (qi (fun h' r => (MR g h' z (nRule s wh v) n nt ∧ FrX mX g h h') ∧ r = (aRule s wh v))) := by
  have hM := hR.1
  have hP := hR.2.1
  have hn8 := hP.2.1
  have hN := hP.1
  refine ex_iload_n (pc := 0) dX7_rule_0 rfl ?_
  refine ex_i2l (pc := 1) dX7_rule_1 ?_
  refine ex_lconst (pc := 2) (v := 0) dX7_rule_2 (by decide) ?_
  refine ex_lconst (pc := 3) (v := 1) dX7_rule_3 (by decide) ?_
  refine cx_SL3i (pc := 4) dX7_rule_4 lk_X7_69 rfl (Nat.le_of_ble_eq_true rfl) (Nat.le_of_ble_eq_true rfl) (by omega) (c_M_in _ (m := 2) (by decide)) (fun h_4 x_4 q_4 => ?_)
  obtain ⟨e_4, f_4⟩ := q_4
  rw [e_4, f_4]
  refine ex_if_eq (pc := 7) (tgt := 33) dX7_rule_7 (by decide) (fun c_7 => ?_) (fun c_7 => ?_)
  · skip
    have b_7 := bF c_7
    refine ex_ldc (pc := 33) dX7_rule_33 cn_X7_161 ?_
    refine ex_ret dX7_rule_35 rfl ?_
    have e1 : (nRule s wh v) = s := by simp [nRule, aRule, b_7]
    rw [e1]
    refine qi_mk ⟨⟨hR, FrX.rf⟩, ?_⟩
    simp [nRule, aRule, b_7]
  · skip
    have b_7 := bT c_7
    refine ex_iload_n (pc := 10) dX7_rule_10 rfl ?_
    refine ex_i2l (pc := 11) dX7_rule_11 ?_
    refine ex_lconst (pc := 12) (v := 0) dX7_rule_12 (by decide) ?_
    refine ex_ldc2_w (pc := 13) dX7_rule_13 cn_X7_198 ?_
    refine cx_SL3i (pc := 16) dX7_rule_16 lk_X7_69 rfl (Nat.le_of_ble_eq_true rfl) (Nat.le_of_ble_eq_true rfl) (by omega) (c_M_in _ (m := 101) (by decide)) (fun h_16 x_16 q_16 => ?_)
    obtain ⟨e_16, f_16⟩ := q_16
    rw [e_16, f_16]
    refine ex_if_eq (pc := 19) (tgt := 33) dX7_rule_19 (by decide) (fun c_19 => ?_) (fun c_19 => ?_)
    · skip
      have b_19 := bF c_19
      refine ex_ldc (pc := 33) dX7_rule_33 cn_X7_161 ?_
      refine ex_ret dX7_rule_35 rfl ?_
      have e1 : (nRule s wh v) = s := by simp [nRule, aRule, b_7, b_19]
      rw [e1]
      refine qi_mk ⟨⟨hR, FrX.rf⟩, ?_⟩
      simp [nRule, aRule, b_7, b_19]
    · skip
      have b_19 := bT c_19
      obtain ⟨w0, hw0, rfl⟩ := bw_ex b_7
      have i_w : ixI (nI w0) = w0 := iK (by omega)
      refine ex_aload_n (pc := 22) dX7_rule_22 rfl ?_
      refine ex_iconst (pc := 23) (v := (nI 3)) dX7_rule_23 (by decide) ?_
      refine ex_iload_n (pc := 24) dX7_rule_24 rfl ?_
      refine ex_iadd (pc := 25) dX7_rule_25 ?_
      refine ex_iload_n (pc := 26) dX7_rule_26 rfl ?_
      rw [nI_add]
      refine cx_VL2i (pc := 27) dX7_rule_27 lk_X7_188 hM.1 rfl (Nat.le_of_ble_eq_true rfl) (Nat.le_of_ble_eq_true rfl) (by omega) (c_M_changes hM (k := 3 + w0) (by omega) _) (fun h_27 x_27 q_27 => ?_)
      obtain ⟨e_27, f_27⟩ := q_27
      rw [f_27]
      refine ex_goto (pc := 30) (tgt := 35) dX7_rule_30 (by decide) ?_
      refine ex_ret dX7_rule_35 rfl ?_
      have e1 : (nRule s (nI w0) v) = upd s (3 + w0) v := by simp [nRule, aRule, b_7, b_19, i_w]
      rw [e1]
      refine qi_mk ⟨by rw [e_27]; exact mr_st hR (lowE.up (by omega) (by omega)) (hP.low (by omega) (by omega)), ?_⟩
      simp [nRule, aRule, b_7, b_19, i_w]
set_option maxHeartbeats 4000000 in
set_option maxRecDepth 100000 in
theorem c_W_seed {g : Gl} {d ks : Nat} {h : AH} {ik wc : Int32} {s : Nat → Int32} {n nt : Nat} (hW : h[0]? = some (wtC g ik wc)) (hC : CR g h 1 s n nt) (v : Int32) : Ex g mX6_seed d 0 ks 0 [some (.ref (g.1 + 0)), some (.int v), none] [] h (qi (fun h' r => (CR g h' 1 (upd s 9 v) n nt ∧ FrX (rmX 1) g h h') ∧ r = s 9)) := by
  have hR := hC.1
  have hP := hC.2.1
  have hn8 := hP.2.1
  have hN := hR.2.1
  obtain ⟨fp, hfp, hfp2⟩ := hR.2.2.2.1
  refine ex_aload_n (pc := 0) dX6_seed_0 rfl ?_
  refine ex_get (pc := 1) dX6_seed_1 fl_X6_10 hW rfl ?_
  refine ex_get (pc := 4) dX6_seed_4 fl_X6_175 hR.1 rfl ?_
  refine sx_istore_n (pc := 7) dX6_seed_7 rfl (by decide) ?_
  show Ex _ _ _ _ _ _ [_, _, _] _ _ _
  refine ex_aload_n (pc := 8) dX6_seed_8 rfl ?_
  refine ex_get (pc := 9) dX6_seed_9 fl_X6_10 hW rfl ?_
  refine ex_iload_n (pc := 12) dX6_seed_12 rfl ?_
  refine ex_put (pc := 13) dX6_seed_13 fp_X6_175 hR.1 (Nat.le_of_ble_eq_true rfl) rfl rfl ?_
  rw [rm_9]
  refine ex_iload_n (pc := 16) dX6_seed_16 rfl ?_
  refine ex_ret dX6_seed_17 rfl ?_
  exact qi_mk ⟨cr_fld hC _ (by omega) (by omega), rfl⟩
set_option maxHeartbeats 4000000 in
set_option maxRecDepth 100000 in
theorem c_M_seed {g : Gl} {d ks : Nat} {h : AH} {z s : Nat → Int32} {n nt : Nat} (hR : MR g h z s n nt) (hd : 1 ≤ d) (v : Int32) : Ex g mX7_seed d 0 ks 0 [some (.ref (g.1 + 75)), some (.int v)] [] h (qi (fun h' r => (MR g h' z (upd s 9 v) n nt ∧ FrX mX g h h') ∧ r = s 9)) := by
  have hM := hR.1
  have hP := hR.2.1
  have hn8 := hP.2.1
  have hN := hP.1
  refine ex_aload_n (pc := 0) dX7_seed_0 rfl ?_
  refine ex_bipush (pc := 1) (v := (nI 9)) dX7_seed_1 (by decide) ?_
  refine ex_iload_n (pc := 3) dX7_seed_3 rfl ?_
  refine cx_VL2i (pc := 4) dX7_seed_4 lk_X7_188 hM.1 rfl (Nat.le_of_ble_eq_true rfl) (Nat.le_of_ble_eq_true rfl) (by omega) (c_M_changes hM (k := 9) (by omega) _) (fun h_4 x_4 q_4 => ?_)
  obtain ⟨e_4, f_4⟩ := q_4
  rw [f_4]
  refine ex_ret dX7_seed_7 rfl ?_
  exact qi_mk ⟨by rw [e_4]; exact mr_st hR (lowE.up (by omega) (by omega)) (hP.low (by omega) (by omega)), rfl⟩
theorem dr4_ok {s : Nat → Int32} {n : Nat} (h : POk s n) : POk (dr4 s) n ∧ lowE s (dr4 s) :=
  ⟨(((h.low (by omega) (by omega)).low (by omega) (by omega)).low (by omega) (by omega)).low (by omega) (by omega), (((lowE.up (by omega) (by omega)).tr (lowE.up (by omega) (by omega))).tr (lowE.up (by omega) (by omega))).tr (lowE.up (by omega) (by omega))⟩
theorem dpC_lt {s : Nat → Int32} {n j : Nat} (h : dpC s n = some j) : j < 48 := nfF_lt (Nat.mod_lt _ (by decide)) h
theorem dl_ok : ∀ (m : Nat) (s : Nat → Int32) (n : Nat), POk s n → POk (dlS m s n).1 (n + (dlS m s n).2) ∧ lowE s (dlS m s n).1 := by
  intro m
  induction m with
  | zero => intro s n h; exact ⟨h, lowE.rf⟩
  | succ m ih =>
    intro s n h
    rw [dlS]
    by_cases hn : n < 8
    · rw [if_pos hn]
      obtain ⟨a1, a2⟩ := dr4_ok h
      cases hc : dpC s n with
      | none => exact ⟨a1, a2⟩
      | some j =>
        have q := a1.cm hn (ti := nI (dN (drS (drS (drS s)) 9) % 60)) (Nat.mod_lt (dN (s 9)) (by decide : 0 < 6)) (dpC_lt hc) (Nat.mod_lt (dN (drS (drS s) 9)) (by decide : 0 < 4))
        obtain ⟨b1, b2⟩ := ih _ _ q
        simp only []
        refine ⟨?_, (a2.tr (lowE.cm hn)).tr b2⟩
        rw [show n + ((dlS m (dpT s n (some j)) (n + 1)).2 + 1) = n + 1 + (dlS m (dpT s n (some j)) (n + 1)).2 by omega]
        exact b1
    · rw [if_neg hn]; exact ⟨h, lowE.rf⟩
theorem deaB_f {N : Int32} (h : deaB N) : bq N 1 8 = false := by
  refine decide_eq_false (fun q => ?_)
  rcases h with z | z
  · exact absurd z (Int32.not_lt.mpr q.1)
  · exact z q.2
theorem bq_K {K : Nat} (h1 : 1 ≤ K) (h2 : K ≤ 8) : bq (nI K) 1 8 = true := decide_eq_true ⟨nI_le h1 (by omega), nI_le h2 (by omega)⟩
set_option maxHeartbeats 4000000 in
set_option maxRecDepth 100000 in
theorem c_W_dealF {g : Gl} {d ks : Nat} {h : AH} {ik wc : Int32} {s : Nat → Int32} {n nt : Nat} (hW : h[0]? = some (wtC g ik wc)) (hC : CR g h 1 s n nt) (hd : 3 ≤ d) (N : Int32) : Ex g mX6_deal d 0 ks 0 [some (.ref (g.1 + 0)), some (.int N), none, none] [] h (qi (fun h' r => (CR g h' 1 (nDeal s n N).1 (nDeal s n N).2 nt ∧ FrX (rmX 1) g h h') ∧ r = (aDeal s n N))) := by
  refine (c_W_deal hW hC.1 hd).mono (fun h' r a => ?_)
  obtain ⟨x, e, a⟩ := a
  refine ⟨x, e, ?_⟩
  rcases a with ⟨b1, rfl, rfl⟩ | ⟨K, k1, k2, rfl, ⟨b1, b2⟩, rfl⟩
  · have q := deaB_f b1
    have e1 : nDeal s n N = (s, n) := by simp [nDeal, q]
    rw [e1]
    exact ⟨⟨hC, FrX.rf⟩, by simp [aDeal, q]⟩
  · have i_K : ixI (nI K) = K := iK (by omega)
    have e1 : nDeal s n (nI K) = ((dlS K s n).1, n + (dlS K s n).2) := by simp [nDeal, bq_K k1 k2, i_K]
    obtain ⟨o1, o2⟩ := dl_ok K s n hC.2.1
    rw [e1]
    exact ⟨⟨hC.updE b2 o2 b1 o1, b2⟩, by simp [aDeal, bq_K k1 k2, i_K]⟩
set_option maxHeartbeats 4000000 in
set_option maxRecDepth 100000 in
theorem c_M_deal {g : Gl} {d ks : Nat} {h : AH} {z s : Nat → Int32} {n nt : Nat} (hR : MR g h z s n nt) (hd : 4 ≤ d) (N : Int32) : Ex g mX7_deal d 0 ks 0 [some (.ref (g.1 + 75)), some (.int N), none, none, none, none, none, none] [] h (qi (fun h' r => (MR g h' z (nDeal s n N).1 (nDeal s n N).2 nt ∧ FrX mX g h h') ∧ r = (aDeal s n N))) := by
  have hM := hR.1
  have hP := hR.2.1
  have hn8 := hP.2.1
  have hN := hP.1
  refine ex_iload_n (pc := 0) dX7_deal_0 rfl ?_
  refine ex_i2l (pc := 1) dX7_deal_1 ?_
  refine ex_lconst (pc := 2) (v := 1) dX7_deal_2 (by decide) ?_
  refine ex_ldc2_w (pc := 3) dX7_deal_3 cn_X7_200 ?_
  refine cx_SL3i (pc := 6) dX7_deal_6 lk_X7_69 rfl (Nat.le_of_ble_eq_true rfl) (Nat.le_of_ble_eq_true rfl) (by omega) (c_M_inq _ (a := 1) (b := 8) (by decide) (by decide)) (fun h_6 x_6 q_6 => ?_)
  obtain ⟨e_6, f_6⟩ := q_6
  rw [e_6, f_6]
  refine ex_if_ne (pc := 9) (tgt := 15) dX7_deal_9 (by decide) (fun c_9 => ?_) (fun c_9 => ?_)
  · skip
    have b_9 := bT c_9
    refine ex_iconst (pc := 15) (v := (nI 0)) dX7_deal_15 (by decide) ?_
    refine sx_istore_n (pc := 16) dX7_deal_16 rfl (by decide) ?_
    show Ex _ _ _ _ _ _ [_, _, _, _, _, _, _, _] _ _ _
    refine ex_iconst (pc := 17) (v := (nI 1)) dX7_deal_17 (by decide) ?_
    refine sx_istore_n (pc := 18) dX7_deal_18 rfl (by decide) ?_
    show Ex _ _ _ _ _ _ [_, _, _, _, _, _, _, _] _ _ _
    obtain ⟨K, hK1, hK2, rfl⟩ := bq_ex b_9
    have i_K : ixI (nI K) = K := iK (by omega)
    have e1 : nDeal s n (nI K) = ((dlS K s n).1, n + (dlS K s n).2) := by simp [nDeal, b_9, i_K]
    obtain ⟨o1, o2⟩ := dl_ok K s n hP
    rw [e1]
    refine (c_M_deal_l (h := h) hK2 hd K 0 n s _ _ _ _ hM FrX.rf hN hn8 (by omega)).mono (fun h' r a => ?_)
    obtain ⟨x, e, ⟨b1, b2⟩, b3⟩ := a
    exact ⟨x, e, ⟨hR.updE b2 o2 b1 o1, b2⟩, by rw [b3, Nat.zero_add]; simp [aDeal, b_9, i_K]⟩
  · skip
    have b_9 := bF c_9
    refine ex_ldc (pc := 12) dX7_deal_12 cn_X7_161 ?_
    refine ex_ret dX7_deal_14 rfl ?_
    have e1 : (nDeal s n N) = (s, n) := by simp [nDeal, aDeal, b_9]
    rw [e1]
    refine qi_mk ⟨⟨hR, FrX.rf⟩, ?_⟩
    simp [nDeal, aDeal, b_9]

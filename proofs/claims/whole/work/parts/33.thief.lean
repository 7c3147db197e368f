theorem ofI_m1 : Int32.ofInt (-1) = -1 := by decide
theorem ofI_1 : Int32.ofInt 1 = nI 1 := by decide
section SXI
variable {g : Gl} {M : Mt} {d kc ks pc : Nat} {als : List (Option Value)} {st : List Value} {h : AH} {Q : AH → Option Value → Prop}
theorem sx_dec {i : Nat} {x : Int32} (hd : decode M.2.1 pc = .ok (.iinc i (-1), 3)) (hx : als[i]? = some (some (.int x))) (ho : okI als i = true) (hn : i < M.2.2.1) (K : Ex g M d kc ks (pc + 3) (als.set i (some (.int (x + (-1))))) st h Q) : Ex g M d kc ks pc als st h Q := ex_iinc hd hx (by rw [ofI_m1]) ho hn K
theorem sx_inc1 {i : Nat} {x : Int32} (hd : decode M.2.1 pc = .ok (.iinc i 1, 3)) (hx : als[i]? = some (some (.int x))) (ho : okI als i = true) (hn : i < M.2.2.1) (K : Ex g M d kc ks (pc + 3) (als.set i (some (.int (x + nI 1)))) st h Q) : Ex g M d kc ks pc als st h Q := ex_iinc hd hx (by rw [ofI_1]) ho hn K
end SXI
/-! the parts of an hour: the class's draw, the thief's way, who sees him, both sides -/
theorem rm_0 {g : Gl} {b : Nat} {s : Nat → Int32} {w : Int64} {v : Int32} : ob 2 ([Value.ref (g.1 + (b + 1)), .int (s 0), .long w, .int (s 7), .int (s 3), .int (s 4), .int (s 5), .int (s 6), .int (s 2), .int (s 9), .ref (g.1 + (b + 2)), .int (s 1), .ref (g.1 + (b + 3))].set 1 (.int v)) = rmC g b (upd s 0 v) w := by simp [rmC, upd]
theorem rm_7 {g : Gl} {b : Nat} {s : Nat → Int32} {w : Int64} {v : Int32} : ob 2 ([Value.ref (g.1 + (b + 1)), .int (s 0), .long w, .int (s 7), .int (s 3), .int (s 4), .int (s 5), .int (s 6), .int (s 2), .int (s 9), .ref (g.1 + (b + 2)), .int (s 1), .ref (g.1 + (b + 3))].set 3 (.int v)) = rmC g b (upd s 7 v) w := by simp [rmC, upd]
theorem rm_3 {g : Gl} {b : Nat} {s : Nat → Int32} {w : Int64} {v : Int32} : ob 2 ([Value.ref (g.1 + (b + 1)), .int (s 0), .long w, .int (s 7), .int (s 3), .int (s 4), .int (s 5), .int (s 6), .int (s 2), .int (s 9), .ref (g.1 + (b + 2)), .int (s 1), .ref (g.1 + (b + 3))].set 4 (.int v)) = rmC g b (upd s 3 v) w := by simp [rmC, upd]
theorem rm_4 {g : Gl} {b : Nat} {s : Nat → Int32} {w : Int64} {v : Int32} : ob 2 ([Value.ref (g.1 + (b + 1)), .int (s 0), .long w, .int (s 7), .int (s 3), .int (s 4), .int (s 5), .int (s 6), .int (s 2), .int (s 9), .ref (g.1 + (b + 2)), .int (s 1), .ref (g.1 + (b + 3))].set 5 (.int v)) = rmC g b (upd s 4 v) w := by simp [rmC, upd]
theorem rm_5 {g : Gl} {b : Nat} {s : Nat → Int32} {w : Int64} {v : Int32} : ob 2 ([Value.ref (g.1 + (b + 1)), .int (s 0), .long w, .int (s 7), .int (s 3), .int (s 4), .int (s 5), .int (s 6), .int (s 2), .int (s 9), .ref (g.1 + (b + 2)), .int (s 1), .ref (g.1 + (b + 3))].set 6 (.int v)) = rmC g b (upd s 5 v) w := by simp [rmC, upd]
theorem rm_6 {g : Gl} {b : Nat} {s : Nat → Int32} {w : Int64} {v : Int32} : ob 2 ([Value.ref (g.1 + (b + 1)), .int (s 0), .long w, .int (s 7), .int (s 3), .int (s 4), .int (s 5), .int (s 6), .int (s 2), .int (s 9), .ref (g.1 + (b + 2)), .int (s 1), .ref (g.1 + (b + 3))].set 7 (.int v)) = rmC g b (upd s 6 v) w := by simp [rmC, upd]
theorem rm_2 {g : Gl} {b : Nat} {s : Nat → Int32} {w : Int64} {v : Int32} : ob 2 ([Value.ref (g.1 + (b + 1)), .int (s 0), .long w, .int (s 7), .int (s 3), .int (s 4), .int (s 5), .int (s 6), .int (s 2), .int (s 9), .ref (g.1 + (b + 2)), .int (s 1), .ref (g.1 + (b + 3))].set 8 (.int v)) = rmC g b (upd s 2 v) w := by simp [rmC, upd]
theorem rm_9 {g : Gl} {b : Nat} {s : Nat → Int32} {w : Int64} {v : Int32} : ob 2 ([Value.ref (g.1 + (b + 1)), .int (s 0), .long w, .int (s 7), .int (s 3), .int (s 4), .int (s 5), .int (s 6), .int (s 2), .int (s 9), .ref (g.1 + (b + 2)), .int (s 1), .ref (g.1 + (b + 3))].set 9 (.int v)) = rmC g b (upd s 9 v) w := by simp [rmC, upd]
theorem rm_1 {g : Gl} {b : Nat} {s : Nat → Int32} {w : Int64} {v : Int32} : ob 2 ([Value.ref (g.1 + (b + 1)), .int (s 0), .long w, .int (s 7), .int (s 3), .int (s 4), .int (s 5), .int (s 6), .int (s 2), .int (s 9), .ref (g.1 + (b + 2)), .int (s 1), .ref (g.1 + (b + 3))].set 11 (.int v)) = rmC g b (upd s 1 v) w := by simp [rmC, upd]
set_option maxHeartbeats 4000000 in
set_option maxRecDepth 100000 in
theorem c_R_draw {g : Gl} {d ks : Nat} {h : AH} {b n : Nat} {s : Nat → Int32} (hR : RoomB g h b s n) : Ex g mX2_draw d 0 ks 0 [some (.ref (g.1 + b))] [] h (qi (fun h' r => h' = h.set b (rmC g b (upd s 9 (drw (s 9))) (setL (wll s) 48)) ∧ r = drv (s 9))) := by
  refine ex_aload_n (pc := 0) dX2_draw_0 rfl ?_
  refine ex_aload_n (pc := 1) dX2_draw_1 rfl ?_
  refine ex_get (pc := 2) dX2_draw_2 fl_X2_43 hR.1 rfl ?_
  refine ex_ldc (pc := 5) dX2_draw_5 cn_X2_80 ?_
  refine ex_imul (pc := 7) dX2_draw_7 ?_
  refine ex_sipush (pc := 8) (v := (nI 12345)) dX2_draw_8 (by decide) ?_
  refine ex_iadd (pc := 11) dX2_draw_11 ?_
  refine ex_put (pc := 12) dX2_draw_12 fp_X2_43 hR.1 (Nat.le_of_ble_eq_true rfl) rfl rfl ?_
  rw [rm_9]
  refine ex_aload_n (pc := 15) dX2_draw_15 rfl ?_
  refine ex_get (pc := 16) dX2_draw_16 fl_X2_43 (gs_eq hR.1) rfl ?_
  refine ex_bipush (pc := 19) (v := (nI 8)) dX2_draw_19 (by decide) ?_
  refine ex_iushr (pc := 21) dX2_draw_21 ?_
  refine ex_ret dX2_draw_22 rfl ?_
  rw [upd_eq, show s 9 * 1103515245 + nI 12345 = drw (s 9) from rfl]
  refine qi_mk ⟨?_, ?_⟩
  · with_reducible rfl
  · rfl
theorem r32_0 (th : Nat) : r32 0 th = nI th / nI 8 + (-1) := by simp only [r32]; simp
theorem c32_0 (th : Nat) : c32 0 th = rm32 (nI th) (nI 8) := by simp only [c32]; simp
theorem r32_1 (th : Nat) : r32 1 th = nI th / nI 8 := by simp only [r32]; simp
theorem c32_1 (th : Nat) : c32 1 th = rm32 (nI th) (nI 8) + nI 1 := by simp only [c32]; simp
theorem r32_2 (th : Nat) : r32 2 th = nI th / nI 8 + nI 1 := by simp only [r32]; simp
theorem c32_2 (th : Nat) : c32 2 th = rm32 (nI th) (nI 8) := by simp only [c32]; simp
theorem r32_3 (th : Nat) : r32 3 th = nI th / nI 8 := by simp only [r32]; simp
theorem c32_3 (th : Nat) : c32 3 th = rm32 (nI th) (nI 8) + (-1) := by simp only [c32]; simp
theorem mv_same {s : Nat → Int32} (h : nxt (dN (s 9) % 4) (thf s) = none) : mvS s = drS s := by
  show mvO s (nxt (dN (s 9) % 4) (thf s)) = _
  rw [h, mvO]
theorem mv_wall {s : Nat → Int32} {c : Nat} (h : nxt (dN (s 9) % 4) (thf s) = some c) (hw : wll s c = true) : mvS s = drS s := by
  show mvO s (nxt (dN (s 9) % 4) (thf s)) = _
  rw [h, mvO, if_pos hw]
theorem mv_go {s : Nat → Int32} {c : Nat} (h : nxt (dN (s 9) % 4) (thf s) = some c) (hw : ¬ wll s c = true) : mvS s = upd (drS s) 7 (nI c) := by
  show mvO s (nxt (dN (s 9) % 4) (thf s)) = _
  rw [h, mvO, if_neg hw]
set_option maxHeartbeats 4000000 in
set_option maxRecDepth 100000 in
theorem c_R_moveThief {g : Gl} {d ks : Nat} {h : AH} {b n : Nat} {s : Nat → Int32} (hR : RoomB g h b s n) (hd : 1 ≤ d) {th : Nat} (e7 : s 7 = nI th) (hth2 : th < 48) : Ex g mX2_moveThief d 0 ks 0 [some (.ref (g.1 + b)), none, none, none, none] [] h (qv (fun h' => h' = h.set b (rmC g b (mvS s) (setL (wll s) 48)))) := by
  have hth : thf s = th := by unfold thf; rw [e7, nI_clamp (by omega)]
  have hR1 : RoomB g (h.set b (rmC g b (upd s 9 (drw (s 9))) (setL (wll s) 48))) b (upd s 9 (drw (s 9))) n := hR.fld (k := 9) (drw (s 9)) (by omega) (by omega)
  have h1 : (h.set b (rmC g b (upd s 9 (drw (s 9))) (setL (wll s) 48)))[b]? = some (rmC g b (upd s 9 (drw (s 9))) (setL (wll s) 48)) := gs_eq hR.1
  have hσ4 : dN (s 9) % 4 < 4 := Nat.mod_lt _ (by omega)
  rcases (show dN (s 9) % 4 = 0 ∨ dN (s 9) % 4 = 1 ∨ dN (s 9) % 4 = 2 ∨ dN (s 9) % 4 = 3 by omega) with hσ | hσ | hσ | hσ
  · cases hx : nxt 0 th with
    | none =>
      refine ex_aload_n (pc := 0) dX2_moveThief_0 rfl ?_
      refine cx_VL0i (pc := 1) dX2_moveThief_1 lk_X2_81 hR.1 rfl (Nat.le_of_ble_eq_true rfl) (Nat.le_of_ble_eq_true rfl) (by omega) (c_R_draw hR) (fun h_1 x_1 q_1 => ?_)
      obtain ⟨e_1, rfl⟩ := q_1
      rw [e_1]
      refine ex_iconst (pc := 4) (v := (nI 4)) dX2_moveThief_4 (by decide) ?_
      refine ex_irem (pc := 5) dX2_moveThief_5 (by decide) ?_
      rw [drv_rem (s 9) (by omega) (by omega), hσ]
      refine sx_istore_n (pc := 6) dX2_moveThief_6 rfl (by decide) ?_
      show Ex _ _ _ _ _ _ [_, _, _, _, _] _ _ _
      refine ex_aload_n (pc := 7) dX2_moveThief_7 rfl ?_
      refine ex_get (pc := 8) dX2_moveThief_8 fl_X2_25 h1 rfl ?_
      refine ex_bipush (pc := 11) (v := (nI 8)) dX2_moveThief_11 (by decide) ?_
      refine ex_idiv (pc := 13) dX2_moveThief_13 (by decide) ?_
      rw [show upd s 9 (drw (s 9)) 7 = nI th from (upd_ne (by decide)).trans e7]
      refine sx_istore_n (pc := 14) dX2_moveThief_14 rfl (by decide) ?_
      show Ex _ _ _ _ _ _ [_, _, _, _, _] _ _ _
      refine ex_aload_n (pc := 15) dX2_moveThief_15 rfl ?_
      refine ex_get (pc := 16) dX2_moveThief_16 fl_X2_25 h1 rfl ?_
      refine ex_bipush (pc := 19) (v := (nI 8)) dX2_moveThief_19 (by decide) ?_
      refine ex_irem (pc := 21) dX2_moveThief_21 (by decide) ?_
      rw [show upd s 9 (drw (s 9)) 7 = nI th from (upd_ne (by decide)).trans e7]
      refine sx_istore_n (pc := 22) dX2_moveThief_22 rfl (by decide) ?_
      show Ex _ _ _ _ _ _ [_, _, _, _, _] _ _ _
      refine ex_iload_n (pc := 23) dX2_moveThief_23 rfl ?_
      refine bx_if_ne_f (pc := 24) (tgt := 33) dX2_moveThief_24 (by decide) (rfl) ?_
      refine sx_dec (pc := 27) dX2_moveThief_27 rfl rfl (by decide) ?_
      show Ex _ _ _ _ _ _ [_, _, _, _, _] _ _ _
      refine ex_goto (pc := 30) (tgt := 58) dX2_moveThief_30 (by decide) ?_
      refine ex_iload_n (pc := 58) dX2_moveThief_58 rfl ?_
      refine ex_bipush (pc := 59) (v := (nI 8)) dX2_moveThief_59 (by decide) ?_
      refine ex_imul (pc := 61) dX2_moveThief_61 ?_
      refine ex_iload_n (pc := 62) dX2_moveThief_62 rfl ?_
      refine ex_iadd (pc := 63) dX2_moveThief_63 ?_
      refine sx_istore (pc := 64) dX2_moveThief_64 rfl (by decide) ?_
      show Ex _ _ _ _ _ _ [_, _, _, _, _] _ _ _
      rw [← r32_0 th, ← c32_0 th]
      refine ex_iload_n (pc := 66) dX2_moveThief_66 rfl ?_
      refine ex_bipush (pc := 67) (v := (nI 6)) dX2_moveThief_67 (by decide) ?_
      refine cx_SN2i (pc := 69) dX2_moveThief_69 lk_X2_171 rfl (Nat.le_of_ble_eq_true rfl) (Nat.le_of_ble_eq_true rfl) (by omega) (c_isBelow _ _) (fun h_69 x_69 q_69 => ?_)
      obtain ⟨e_69, f_69⟩ := q_69
      rw [e_69, f_69]
      refine ex_if_eq (pc := 72) (tgt := 99) dX2_moveThief_72 (by decide) (fun c_72 => ?_) (fun c_72 => ?_)
      · skip
        refine ex_vret dX2_moveThief_99 rfl ?_
        refine qv_mk ?_
        rw [mv_same (by rw [hσ, hth]; exact hx)]
      · skip
        refine ex_iload_n (pc := 75) dX2_moveThief_75 rfl ?_
        refine ex_bipush (pc := 76) (v := (nI 8)) dX2_moveThief_76 (by decide) ?_
        refine cx_SN2i (pc := 78) dX2_moveThief_78 lk_X2_171 rfl (Nat.le_of_ble_eq_true rfl) (Nat.le_of_ble_eq_true rfl) (by omega) (c_isBelow _ _) (fun h_78 x_78 q_78 => ?_)
        obtain ⟨e_78, f_78⟩ := q_78
        rw [e_78, f_78]
        refine ex_if_eq (pc := 81) (tgt := 99) dX2_moveThief_81 (by decide) (fun c_81 => ?_) (fun c_81 => ?_)
        · skip
          refine ex_vret dX2_moveThief_99 rfl ?_
          refine qv_mk ?_
          rw [mv_same (by rw [hσ, hth]; exact hx)]
        · skip
          exact absurd ⟨Decidable.not_not.mp (fun q => c_72 (bI_f q)), Decidable.not_not.mp (fun q => c_81 (bI_f q))⟩ (nxt_n (by omega) hth2 hx)
    | some c =>
      have hx1 := nxt_s (by omega) hth2 hx
      refine ex_aload_n (pc := 0) dX2_moveThief_0 rfl ?_
      refine cx_VL0i (pc := 1) dX2_moveThief_1 lk_X2_81 hR.1 rfl (Nat.le_of_ble_eq_true rfl) (Nat.le_of_ble_eq_true rfl) (by omega) (c_R_draw hR) (fun h_1 x_1 q_1 => ?_)
      obtain ⟨e_1, rfl⟩ := q_1
      rw [e_1]
      refine ex_iconst (pc := 4) (v := (nI 4)) dX2_moveThief_4 (by decide) ?_
      refine ex_irem (pc := 5) dX2_moveThief_5 (by decide) ?_
      rw [drv_rem (s 9) (by omega) (by omega), hσ]
      refine sx_istore_n (pc := 6) dX2_moveThief_6 rfl (by decide) ?_
      show Ex _ _ _ _ _ _ [_, _, _, _, _] _ _ _
      refine ex_aload_n (pc := 7) dX2_moveThief_7 rfl ?_
      refine ex_get (pc := 8) dX2_moveThief_8 fl_X2_25 h1 rfl ?_
      refine ex_bipush (pc := 11) (v := (nI 8)) dX2_moveThief_11 (by decide) ?_
      refine ex_idiv (pc := 13) dX2_moveThief_13 (by decide) ?_
      rw [show upd s 9 (drw (s 9)) 7 = nI th from (upd_ne (by decide)).trans e7]
      refine sx_istore_n (pc := 14) dX2_moveThief_14 rfl (by decide) ?_
      show Ex _ _ _ _ _ _ [_, _, _, _, _] _ _ _
      refine ex_aload_n (pc := 15) dX2_moveThief_15 rfl ?_
      refine ex_get (pc := 16) dX2_moveThief_16 fl_X2_25 h1 rfl ?_
      refine ex_bipush (pc := 19) (v := (nI 8)) dX2_moveThief_19 (by decide) ?_
      refine ex_irem (pc := 21) dX2_moveThief_21 (by decide) ?_
      rw [show upd s 9 (drw (s 9)) 7 = nI th from (upd_ne (by decide)).trans e7]
      refine sx_istore_n (pc := 22) dX2_moveThief_22 rfl (by decide) ?_
      show Ex _ _ _ _ _ _ [_, _, _, _, _] _ _ _
      refine ex_iload_n (pc := 23) dX2_moveThief_23 rfl ?_
      refine bx_if_ne_f (pc := 24) (tgt := 33) dX2_moveThief_24 (by decide) (rfl) ?_
      refine sx_dec (pc := 27) dX2_moveThief_27 rfl rfl (by decide) ?_
      show Ex _ _ _ _ _ _ [_, _, _, _, _] _ _ _
      refine ex_goto (pc := 30) (tgt := 58) dX2_moveThief_30 (by decide) ?_
      refine ex_iload_n (pc := 58) dX2_moveThief_58 rfl ?_
      refine ex_bipush (pc := 59) (v := (nI 8)) dX2_moveThief_59 (by decide) ?_
      refine ex_imul (pc := 61) dX2_moveThief_61 ?_
      refine ex_iload_n (pc := 62) dX2_moveThief_62 rfl ?_
      refine ex_iadd (pc := 63) dX2_moveThief_63 ?_
      refine sx_istore (pc := 64) dX2_moveThief_64 rfl (by decide) ?_
      show Ex _ _ _ _ _ _ [_, _, _, _, _] _ _ _
      rw [← r32_0 th, ← c32_0 th]
      refine ex_iload_n (pc := 66) dX2_moveThief_66 rfl ?_
      refine ex_bipush (pc := 67) (v := (nI 6)) dX2_moveThief_67 (by decide) ?_
      refine cx_SN2i (pc := 69) dX2_moveThief_69 lk_X2_171 rfl (Nat.le_of_ble_eq_true rfl) (Nat.le_of_ble_eq_true rfl) (by omega) (c_isBelow _ _) (fun h_69 x_69 q_69 => ?_)
      obtain ⟨e_69, f_69⟩ := q_69
      rw [e_69, f_69]
      refine bx_if_eq_f (pc := 72) (tgt := 99) dX2_moveThief_72 (by decide) (by rw [bI_t hx1.1.1]; decide) ?_
      refine ex_iload_n (pc := 75) dX2_moveThief_75 rfl ?_
      refine ex_bipush (pc := 76) (v := (nI 8)) dX2_moveThief_76 (by decide) ?_
      refine cx_SN2i (pc := 78) dX2_moveThief_78 lk_X2_171 rfl (Nat.le_of_ble_eq_true rfl) (Nat.le_of_ble_eq_true rfl) (by omega) (c_isBelow _ _) (fun h_78 x_78 q_78 => ?_)
      obtain ⟨e_78, f_78⟩ := q_78
      rw [e_78, f_78]
      refine bx_if_eq_f (pc := 81) (tgt := 99) dX2_moveThief_81 (by decide) (by rw [bI_t hx1.1.2]; decide) ?_
      refine ex_aload_n (pc := 84) dX2_moveThief_84 rfl ?_
      refine ex_iload (pc := 85) dX2_moveThief_85 rfl ?_
      rw [show r32 0 th * nI 8 + c32 0 th = nI c from hx1.2.1]
      refine cx_VL1i (pc := 87) dX2_moveThief_87 lk_X2_68 h1 rfl (Nat.le_of_ble_eq_true rfl) (Nat.le_of_ble_eq_true rfl) (by omega) (c_R_hasWall hR1 hx1.2.2.2) (fun h_87 x_87 q_87 => ?_)
      obtain ⟨e_87, f_87⟩ := q_87
      rw [e_87, f_87]
      rw [show upd s 9 (drw (s 9)) (42 + c) = s (42 + c) from upd_ne (by omega)]
      refine ex_if_ne (pc := 90) (tgt := 99) dX2_moveThief_90 (by decide) (fun c_90 => ?_) (fun c_90 => ?_)
      · skip
        refine ex_vret dX2_moveThief_99 rfl ?_
        refine qv_mk ?_
        first
        | (rw [mv_wall (by rw [hσ, hth]; exact hx) (show wll s c = true from decide_eq_true (Decidable.not_not.mp (fun q => c_90 (bI_f q))))]; done)
        | (rw [mv_go (s := s) (by rw [hσ, hth]; exact hx) (fun q => (bI_0.mp c_90) (of_decide_eq_true q)), List.set_set]; done)
      · skip
        refine ex_aload_n (pc := 93) dX2_moveThief_93 rfl ?_
        refine ex_iload (pc := 94) dX2_moveThief_94 rfl ?_
        refine ex_put (pc := 96) dX2_moveThief_96 fp_X2_25 h1 (Nat.le_of_ble_eq_true rfl) rfl rfl ?_
        rw [rm_7]
        refine ex_vret dX2_moveThief_99 rfl ?_
        refine qv_mk ?_
        first
        | (rw [mv_wall (by rw [hσ, hth]; exact hx) (show wll s c = true from decide_eq_true (Decidable.not_not.mp (fun q => c_90 (bI_f q))))]; done)
        | (rw [mv_go (s := s) (by rw [hσ, hth]; exact hx) (fun q => (bI_0.mp c_90) (of_decide_eq_true q)), List.set_set]; done)
  · cases hx : nxt 1 th with
    | none =>
      refine ex_aload_n (pc := 0) dX2_moveThief_0 rfl ?_
      refine cx_VL0i (pc := 1) dX2_moveThief_1 lk_X2_81 hR.1 rfl (Nat.le_of_ble_eq_true rfl) (Nat.le_of_ble_eq_true rfl) (by omega) (c_R_draw hR) (fun h_1 x_1 q_1 => ?_)
      obtain ⟨e_1, rfl⟩ := q_1
      rw [e_1]
      refine ex_iconst (pc := 4) (v := (nI 4)) dX2_moveThief_4 (by decide) ?_
      refine ex_irem (pc := 5) dX2_moveThief_5 (by decide) ?_
      rw [drv_rem (s 9) (by omega) (by omega), hσ]
      refine sx_istore_n (pc := 6) dX2_moveThief_6 rfl (by decide) ?_
      show Ex _ _ _ _ _ _ [_, _, _, _, _] _ _ _
      refine ex_aload_n (pc := 7) dX2_moveThief_7 rfl ?_
      refine ex_get (pc := 8) dX2_moveThief_8 fl_X2_25 h1 rfl ?_
      refine ex_bipush (pc := 11) (v := (nI 8)) dX2_moveThief_11 (by decide) ?_
      refine ex_idiv (pc := 13) dX2_moveThief_13 (by decide) ?_
      rw [show upd s 9 (drw (s 9)) 7 = nI th from (upd_ne (by decide)).trans e7]
      refine sx_istore_n (pc := 14) dX2_moveThief_14 rfl (by decide) ?_
      show Ex _ _ _ _ _ _ [_, _, _, _, _] _ _ _
      refine ex_aload_n (pc := 15) dX2_moveThief_15 rfl ?_
      refine ex_get (pc := 16) dX2_moveThief_16 fl_X2_25 h1 rfl ?_
      refine ex_bipush (pc := 19) (v := (nI 8)) dX2_moveThief_19 (by decide) ?_
      refine ex_irem (pc := 21) dX2_moveThief_21 (by decide) ?_
      rw [show upd s 9 (drw (s 9)) 7 = nI th from (upd_ne (by decide)).trans e7]
      refine sx_istore_n (pc := 22) dX2_moveThief_22 rfl (by decide) ?_
      show Ex _ _ _ _ _ _ [_, _, _, _, _] _ _ _
      refine ex_iload_n (pc := 23) dX2_moveThief_23 rfl ?_
      refine bx_if_ne_t (pc := 24) (tgt := 33) dX2_moveThief_24 (by decide) (by decide) ?_
      refine ex_iload_n (pc := 33) dX2_moveThief_33 rfl ?_
      refine ex_iconst (pc := 34) (v := (nI 1)) dX2_moveThief_34 (by decide) ?_
      refine bx_icmp_ne_f (pc := 35) (tgt := 44) dX2_moveThief_35 (by decide) (rfl) ?_
      refine sx_inc1 (pc := 38) dX2_moveThief_38 rfl rfl (by decide) ?_
      show Ex _ _ _ _ _ _ [_, _, _, _, _] _ _ _
      refine ex_goto (pc := 41) (tgt := 58) dX2_moveThief_41 (by decide) ?_
      refine ex_iload_n (pc := 58) dX2_moveThief_58 rfl ?_
      refine ex_bipush (pc := 59) (v := (nI 8)) dX2_moveThief_59 (by decide) ?_
      refine ex_imul (pc := 61) dX2_moveThief_61 ?_
      refine ex_iload_n (pc := 62) dX2_moveThief_62 rfl ?_
      refine ex_iadd (pc := 63) dX2_moveThief_63 ?_
      refine sx_istore (pc := 64) dX2_moveThief_64 rfl (by decide) ?_
      show Ex _ _ _ _ _ _ [_, _, _, _, _] _ _ _
      rw [← r32_1 th, ← c32_1 th]
      refine ex_iload_n (pc := 66) dX2_moveThief_66 rfl ?_
      refine ex_bipush (pc := 67) (v := (nI 6)) dX2_moveThief_67 (by decide) ?_
      refine cx_SN2i (pc := 69) dX2_moveThief_69 lk_X2_171 rfl (Nat.le_of_ble_eq_true rfl) (Nat.le_of_ble_eq_true rfl) (by omega) (c_isBelow _ _) (fun h_69 x_69 q_69 => ?_)
      obtain ⟨e_69, f_69⟩ := q_69
      rw [e_69, f_69]
      refine ex_if_eq (pc := 72) (tgt := 99) dX2_moveThief_72 (by decide) (fun c_72 => ?_) (fun c_72 => ?_)
      · skip
        refine ex_vret dX2_moveThief_99 rfl ?_
        refine qv_mk ?_
        rw [mv_same (by rw [hσ, hth]; exact hx)]
      · skip
        refine ex_iload_n (pc := 75) dX2_moveThief_75 rfl ?_
        refine ex_bipush (pc := 76) (v := (nI 8)) dX2_moveThief_76 (by decide) ?_
        refine cx_SN2i (pc := 78) dX2_moveThief_78 lk_X2_171 rfl (Nat.le_of_ble_eq_true rfl) (Nat.le_of_ble_eq_true rfl) (by omega) (c_isBelow _ _) (fun h_78 x_78 q_78 => ?_)
        obtain ⟨e_78, f_78⟩ := q_78
        rw [e_78, f_78]
        refine ex_if_eq (pc := 81) (tgt := 99) dX2_moveThief_81 (by decide) (fun c_81 => ?_) (fun c_81 => ?_)
        · skip
          refine ex_vret dX2_moveThief_99 rfl ?_
          refine qv_mk ?_
          rw [mv_same (by rw [hσ, hth]; exact hx)]
        · skip
          exact absurd ⟨Decidable.not_not.mp (fun q => c_72 (bI_f q)), Decidable.not_not.mp (fun q => c_81 (bI_f q))⟩ (nxt_n (by omega) hth2 hx)
    | some c =>
      have hx1 := nxt_s (by omega) hth2 hx
      refine ex_aload_n (pc := 0) dX2_moveThief_0 rfl ?_
      refine cx_VL0i (pc := 1) dX2_moveThief_1 lk_X2_81 hR.1 rfl (Nat.le_of_ble_eq_true rfl) (Nat.le_of_ble_eq_true rfl) (by omega) (c_R_draw hR) (fun h_1 x_1 q_1 => ?_)
      obtain ⟨e_1, rfl⟩ := q_1
      rw [e_1]
      refine ex_iconst (pc := 4) (v := (nI 4)) dX2_moveThief_4 (by decide) ?_
      refine ex_irem (pc := 5) dX2_moveThief_5 (by decide) ?_
      rw [drv_rem (s 9) (by omega) (by omega), hσ]
      refine sx_istore_n (pc := 6) dX2_moveThief_6 rfl (by decide) ?_
      show Ex _ _ _ _ _ _ [_, _, _, _, _] _ _ _
      refine ex_aload_n (pc := 7) dX2_moveThief_7 rfl ?_
      refine ex_get (pc := 8) dX2_moveThief_8 fl_X2_25 h1 rfl ?_
      refine ex_bipush (pc := 11) (v := (nI 8)) dX2_moveThief_11 (by decide) ?_
      refine ex_idiv (pc := 13) dX2_moveThief_13 (by decide) ?_
      rw [show upd s 9 (drw (s 9)) 7 = nI th from (upd_ne (by decide)).trans e7]
      refine sx_istore_n (pc := 14) dX2_moveThief_14 rfl (by decide) ?_
      show Ex _ _ _ _ _ _ [_, _, _, _, _] _ _ _
      refine ex_aload_n (pc := 15) dX2_moveThief_15 rfl ?_
      refine ex_get (pc := 16) dX2_moveThief_16 fl_X2_25 h1 rfl ?_
      refine ex_bipush (pc := 19) (v := (nI 8)) dX2_moveThief_19 (by decide) ?_
      refine ex_irem (pc := 21) dX2_moveThief_21 (by decide) ?_
      rw [show upd s 9 (drw (s 9)) 7 = nI th from (upd_ne (by decide)).trans e7]
      refine sx_istore_n (pc := 22) dX2_moveThief_22 rfl (by decide) ?_
      show Ex _ _ _ _ _ _ [_, _, _, _, _] _ _ _
      refine ex_iload_n (pc := 23) dX2_moveThief_23 rfl ?_
      refine bx_if_ne_t (pc := 24) (tgt := 33) dX2_moveThief_24 (by decide) (by decide) ?_
      refine ex_iload_n (pc := 33) dX2_moveThief_33 rfl ?_
      refine ex_iconst (pc := 34) (v := (nI 1)) dX2_moveThief_34 (by decide) ?_
      refine bx_icmp_ne_f (pc := 35) (tgt := 44) dX2_moveThief_35 (by decide) (rfl) ?_
      refine sx_inc1 (pc := 38) dX2_moveThief_38 rfl rfl (by decide) ?_
      show Ex _ _ _ _ _ _ [_, _, _, _, _] _ _ _
      refine ex_goto (pc := 41) (tgt := 58) dX2_moveThief_41 (by decide) ?_
      refine ex_iload_n (pc := 58) dX2_moveThief_58 rfl ?_
      refine ex_bipush (pc := 59) (v := (nI 8)) dX2_moveThief_59 (by decide) ?_
      refine ex_imul (pc := 61) dX2_moveThief_61 ?_
      refine ex_iload_n (pc := 62) dX2_moveThief_62 rfl ?_
      refine ex_iadd (pc := 63) dX2_moveThief_63 ?_
      refine sx_istore (pc := 64) dX2_moveThief_64 rfl (by decide) ?_
      show Ex _ _ _ _ _ _ [_, _, _, _, _] _ _ _
      rw [← r32_1 th, ← c32_1 th]
      refine ex_iload_n (pc := 66) dX2_moveThief_66 rfl ?_
      refine ex_bipush (pc := 67) (v := (nI 6)) dX2_moveThief_67 (by decide) ?_
      refine cx_SN2i (pc := 69) dX2_moveThief_69 lk_X2_171 rfl (Nat.le_of_ble_eq_true rfl) (Nat.le_of_ble_eq_true rfl) (by omega) (c_isBelow _ _) (fun h_69 x_69 q_69 => ?_)
      obtain ⟨e_69, f_69⟩ := q_69
      rw [e_69, f_69]
      refine bx_if_eq_f (pc := 72) (tgt := 99) dX2_moveThief_72 (by decide) (by rw [bI_t hx1.1.1]; decide) ?_
      refine ex_iload_n (pc := 75) dX2_moveThief_75 rfl ?_
      refine ex_bipush (pc := 76) (v := (nI 8)) dX2_moveThief_76 (by decide) ?_
      refine cx_SN2i (pc := 78) dX2_moveThief_78 lk_X2_171 rfl (Nat.le_of_ble_eq_true rfl) (Nat.le_of_ble_eq_true rfl) (by omega) (c_isBelow _ _) (fun h_78 x_78 q_78 => ?_)
      obtain ⟨e_78, f_78⟩ := q_78
      rw [e_78, f_78]
      refine bx_if_eq_f (pc := 81) (tgt := 99) dX2_moveThief_81 (by decide) (by rw [bI_t hx1.1.2]; decide) ?_
      refine ex_aload_n (pc := 84) dX2_moveThief_84 rfl ?_
      refine ex_iload (pc := 85) dX2_moveThief_85 rfl ?_
      rw [show r32 1 th * nI 8 + c32 1 th = nI c from hx1.2.1]
      refine cx_VL1i (pc := 87) dX2_moveThief_87 lk_X2_68 h1 rfl (Nat.le_of_ble_eq_true rfl) (Nat.le_of_ble_eq_true rfl) (by omega) (c_R_hasWall hR1 hx1.2.2.2) (fun h_87 x_87 q_87 => ?_)
      obtain ⟨e_87, f_87⟩ := q_87
      rw [e_87, f_87]
      rw [show upd s 9 (drw (s 9)) (42 + c) = s (42 + c) from upd_ne (by omega)]
      refine ex_if_ne (pc := 90) (tgt := 99) dX2_moveThief_90 (by decide) (fun c_90 => ?_) (fun c_90 => ?_)
      · skip
        refine ex_vret dX2_moveThief_99 rfl ?_
        refine qv_mk ?_
        first
        | (rw [mv_wall (by rw [hσ, hth]; exact hx) (show wll s c = true from decide_eq_true (Decidable.not_not.mp (fun q => c_90 (bI_f q))))]; done)
        | (rw [mv_go (s := s) (by rw [hσ, hth]; exact hx) (fun q => (bI_0.mp c_90) (of_decide_eq_true q)), List.set_set]; done)
      · skip
        refine ex_aload_n (pc := 93) dX2_moveThief_93 rfl ?_
        refine ex_iload (pc := 94) dX2_moveThief_94 rfl ?_
        refine ex_put (pc := 96) dX2_moveThief_96 fp_X2_25 h1 (Nat.le_of_ble_eq_true rfl) rfl rfl ?_
        rw [rm_7]
        refine ex_vret dX2_moveThief_99 rfl ?_
        refine qv_mk ?_
        first
        | (rw [mv_wall (by rw [hσ, hth]; exact hx) (show wll s c = true from decide_eq_true (Decidable.not_not.mp (fun q => c_90 (bI_f q))))]; done)
        | (rw [mv_go (s := s) (by rw [hσ, hth]; exact hx) (fun q => (bI_0.mp c_90) (of_decide_eq_true q)), List.set_set]; done)
  · cases hx : nxt 2 th with
    | none =>
      refine ex_aload_n (pc := 0) dX2_moveThief_0 rfl ?_
      refine cx_VL0i (pc := 1) dX2_moveThief_1 lk_X2_81 hR.1 rfl (Nat.le_of_ble_eq_true rfl) (Nat.le_of_ble_eq_true rfl) (by omega) (c_R_draw hR) (fun h_1 x_1 q_1 => ?_)
      obtain ⟨e_1, rfl⟩ := q_1
      rw [e_1]
      refine ex_iconst (pc := 4) (v := (nI 4)) dX2_moveThief_4 (by decide) ?_
      refine ex_irem (pc := 5) dX2_moveThief_5 (by decide) ?_
      rw [drv_rem (s 9) (by omega) (by omega), hσ]
      refine sx_istore_n (pc := 6) dX2_moveThief_6 rfl (by decide) ?_
      show Ex _ _ _ _ _ _ [_, _, _, _, _] _ _ _
      refine ex_aload_n (pc := 7) dX2_moveThief_7 rfl ?_
      refine ex_get (pc := 8) dX2_moveThief_8 fl_X2_25 h1 rfl ?_
      refine ex_bipush (pc := 11) (v := (nI 8)) dX2_moveThief_11 (by decide) ?_
      refine ex_idiv (pc := 13) dX2_moveThief_13 (by decide) ?_
      rw [show upd s 9 (drw (s 9)) 7 = nI th from (upd_ne (by decide)).trans e7]
      refine sx_istore_n (pc := 14) dX2_moveThief_14 rfl (by decide) ?_
      show Ex _ _ _ _ _ _ [_, _, _, _, _] _ _ _
      refine ex_aload_n (pc := 15) dX2_moveThief_15 rfl ?_
      refine ex_get (pc := 16) dX2_moveThief_16 fl_X2_25 h1 rfl ?_
      refine ex_bipush (pc := 19) (v := (nI 8)) dX2_moveThief_19 (by decide) ?_
      refine ex_irem (pc := 21) dX2_moveThief_21 (by decide) ?_
      rw [show upd s 9 (drw (s 9)) 7 = nI th from (upd_ne (by decide)).trans e7]
      refine sx_istore_n (pc := 22) dX2_moveThief_22 rfl (by decide) ?_
      show Ex _ _ _ _ _ _ [_, _, _, _, _] _ _ _
      refine ex_iload_n (pc := 23) dX2_moveThief_23 rfl ?_
      refine bx_if_ne_t (pc := 24) (tgt := 33) dX2_moveThief_24 (by decide) (by decide) ?_
      refine ex_iload_n (pc := 33) dX2_moveThief_33 rfl ?_
      refine ex_iconst (pc := 34) (v := (nI 1)) dX2_moveThief_34 (by decide) ?_
      refine bx_icmp_ne_t (pc := 35) (tgt := 44) dX2_moveThief_35 (by decide) (by decide) ?_
      refine ex_iload_n (pc := 44) dX2_moveThief_44 rfl ?_
      refine ex_iconst (pc := 45) (v := (nI 2)) dX2_moveThief_45 (by decide) ?_
      refine bx_icmp_ne_f (pc := 46) (tgt := 55) dX2_moveThief_46 (by decide) (rfl) ?_
      refine sx_inc1 (pc := 49) dX2_moveThief_49 rfl rfl (by decide) ?_
      show Ex _ _ _ _ _ _ [_, _, _, _, _] _ _ _
      refine ex_goto (pc := 52) (tgt := 58) dX2_moveThief_52 (by decide) ?_
      refine ex_iload_n (pc := 58) dX2_moveThief_58 rfl ?_
      refine ex_bipush (pc := 59) (v := (nI 8)) dX2_moveThief_59 (by decide) ?_
      refine ex_imul (pc := 61) dX2_moveThief_61 ?_
      refine ex_iload_n (pc := 62) dX2_moveThief_62 rfl ?_
      refine ex_iadd (pc := 63) dX2_moveThief_63 ?_
      refine sx_istore (pc := 64) dX2_moveThief_64 rfl (by decide) ?_
      show Ex _ _ _ _ _ _ [_, _, _, _, _] _ _ _
      rw [← r32_2 th, ← c32_2 th]
      refine ex_iload_n (pc := 66) dX2_moveThief_66 rfl ?_
      refine ex_bipush (pc := 67) (v := (nI 6)) dX2_moveThief_67 (by decide) ?_
      refine cx_SN2i (pc := 69) dX2_moveThief_69 lk_X2_171 rfl (Nat.le_of_ble_eq_true rfl) (Nat.le_of_ble_eq_true rfl) (by omega) (c_isBelow _ _) (fun h_69 x_69 q_69 => ?_)
      obtain ⟨e_69, f_69⟩ := q_69
      rw [e_69, f_69]
      refine ex_if_eq (pc := 72) (tgt := 99) dX2_moveThief_72 (by decide) (fun c_72 => ?_) (fun c_72 => ?_)
      · skip
        refine ex_vret dX2_moveThief_99 rfl ?_
        refine qv_mk ?_
        rw [mv_same (by rw [hσ, hth]; exact hx)]
      · skip
        refine ex_iload_n (pc := 75) dX2_moveThief_75 rfl ?_
        refine ex_bipush (pc := 76) (v := (nI 8)) dX2_moveThief_76 (by decide) ?_
        refine cx_SN2i (pc := 78) dX2_moveThief_78 lk_X2_171 rfl (Nat.le_of_ble_eq_true rfl) (Nat.le_of_ble_eq_true rfl) (by omega) (c_isBelow _ _) (fun h_78 x_78 q_78 => ?_)
        obtain ⟨e_78, f_78⟩ := q_78
        rw [e_78, f_78]
        refine ex_if_eq (pc := 81) (tgt := 99) dX2_moveThief_81 (by decide) (fun c_81 => ?_) (fun c_81 => ?_)
        · skip
          refine ex_vret dX2_moveThief_99 rfl ?_
          refine qv_mk ?_
          rw [mv_same (by rw [hσ, hth]; exact hx)]
        · skip
          exact absurd ⟨Decidable.not_not.mp (fun q => c_72 (bI_f q)), Decidable.not_not.mp (fun q => c_81 (bI_f q))⟩ (nxt_n (by omega) hth2 hx)
    | some c =>
      have hx1 := nxt_s (by omega) hth2 hx
      refine ex_aload_n (pc := 0) dX2_moveThief_0 rfl ?_
      refine cx_VL0i (pc := 1) dX2_moveThief_1 lk_X2_81 hR.1 rfl (Nat.le_of_ble_eq_true rfl) (Nat.le_of_ble_eq_true rfl) (by omega) (c_R_draw hR) (fun h_1 x_1 q_1 => ?_)
      obtain ⟨e_1, rfl⟩ := q_1
      rw [e_1]
      refine ex_iconst (pc := 4) (v := (nI 4)) dX2_moveThief_4 (by decide) ?_
      refine ex_irem (pc := 5) dX2_moveThief_5 (by decide) ?_
      rw [drv_rem (s 9) (by omega) (by omega), hσ]
      refine sx_istore_n (pc := 6) dX2_moveThief_6 rfl (by decide) ?_
      show Ex _ _ _ _ _ _ [_, _, _, _, _] _ _ _
      refine ex_aload_n (pc := 7) dX2_moveThief_7 rfl ?_
      refine ex_get (pc := 8) dX2_moveThief_8 fl_X2_25 h1 rfl ?_
      refine ex_bipush (pc := 11) (v := (nI 8)) dX2_moveThief_11 (by decide) ?_
      refine ex_idiv (pc := 13) dX2_moveThief_13 (by decide) ?_
      rw [show upd s 9 (drw (s 9)) 7 = nI th from (upd_ne (by decide)).trans e7]
      refine sx_istore_n (pc := 14) dX2_moveThief_14 rfl (by decide) ?_
      show Ex _ _ _ _ _ _ [_, _, _, _, _] _ _ _
      refine ex_aload_n (pc := 15) dX2_moveThief_15 rfl ?_
      refine ex_get (pc := 16) dX2_moveThief_16 fl_X2_25 h1 rfl ?_
      refine ex_bipush (pc := 19) (v := (nI 8)) dX2_moveThief_19 (by decide) ?_
      refine ex_irem (pc := 21) dX2_moveThief_21 (by decide) ?_
      rw [show upd s 9 (drw (s 9)) 7 = nI th from (upd_ne (by decide)).trans e7]
      refine sx_istore_n (pc := 22) dX2_moveThief_22 rfl (by decide) ?_
      show Ex _ _ _ _ _ _ [_, _, _, _, _] _ _ _
      refine ex_iload_n (pc := 23) dX2_moveThief_23 rfl ?_
      refine bx_if_ne_t (pc := 24) (tgt := 33) dX2_moveThief_24 (by decide) (by decide) ?_
      refine ex_iload_n (pc := 33) dX2_moveThief_33 rfl ?_
      refine ex_iconst (pc := 34) (v := (nI 1)) dX2_moveThief_34 (by decide) ?_
      refine bx_icmp_ne_t (pc := 35) (tgt := 44) dX2_moveThief_35 (by decide) (by decide) ?_
      refine ex_iload_n (pc := 44) dX2_moveThief_44 rfl ?_
      refine ex_iconst (pc := 45) (v := (nI 2)) dX2_moveThief_45 (by decide) ?_
      refine bx_icmp_ne_f (pc := 46) (tgt := 55) dX2_moveThief_46 (by decide) (rfl) ?_
      refine sx_inc1 (pc := 49) dX2_moveThief_49 rfl rfl (by decide) ?_
      show Ex _ _ _ _ _ _ [_, _, _, _, _] _ _ _
      refine ex_goto (pc := 52) (tgt := 58) dX2_moveThief_52 (by decide) ?_
      refine ex_iload_n (pc := 58) dX2_moveThief_58 rfl ?_
      refine ex_bipush (pc := 59) (v := (nI 8)) dX2_moveThief_59 (by decide) ?_
      refine ex_imul (pc := 61) dX2_moveThief_61 ?_
      refine ex_iload_n (pc := 62) dX2_moveThief_62 rfl ?_
      refine ex_iadd (pc := 63) dX2_moveThief_63 ?_
      refine sx_istore (pc := 64) dX2_moveThief_64 rfl (by decide) ?_
      show Ex _ _ _ _ _ _ [_, _, _, _, _] _ _ _
      rw [← r32_2 th, ← c32_2 th]
      refine ex_iload_n (pc := 66) dX2_moveThief_66 rfl ?_
      refine ex_bipush (pc := 67) (v := (nI 6)) dX2_moveThief_67 (by decide) ?_
      refine cx_SN2i (pc := 69) dX2_moveThief_69 lk_X2_171 rfl (Nat.le_of_ble_eq_true rfl) (Nat.le_of_ble_eq_true rfl) (by omega) (c_isBelow _ _) (fun h_69 x_69 q_69 => ?_)
      obtain ⟨e_69, f_69⟩ := q_69
      rw [e_69, f_69]
      refine bx_if_eq_f (pc := 72) (tgt := 99) dX2_moveThief_72 (by decide) (by rw [bI_t hx1.1.1]; decide) ?_
      refine ex_iload_n (pc := 75) dX2_moveThief_75 rfl ?_
      refine ex_bipush (pc := 76) (v := (nI 8)) dX2_moveThief_76 (by decide) ?_
      refine cx_SN2i (pc := 78) dX2_moveThief_78 lk_X2_171 rfl (Nat.le_of_ble_eq_true rfl) (Nat.le_of_ble_eq_true rfl) (by omega) (c_isBelow _ _) (fun h_78 x_78 q_78 => ?_)
      obtain ⟨e_78, f_78⟩ := q_78
      rw [e_78, f_78]
      refine bx_if_eq_f (pc := 81) (tgt := 99) dX2_moveThief_81 (by decide) (by rw [bI_t hx1.1.2]; decide) ?_
      refine ex_aload_n (pc := 84) dX2_moveThief_84 rfl ?_
      refine ex_iload (pc := 85) dX2_moveThief_85 rfl ?_
      rw [show r32 2 th * nI 8 + c32 2 th = nI c from hx1.2.1]
      refine cx_VL1i (pc := 87) dX2_moveThief_87 lk_X2_68 h1 rfl (Nat.le_of_ble_eq_true rfl) (Nat.le_of_ble_eq_true rfl) (by omega) (c_R_hasWall hR1 hx1.2.2.2) (fun h_87 x_87 q_87 => ?_)
      obtain ⟨e_87, f_87⟩ := q_87
      rw [e_87, f_87]
      rw [show upd s 9 (drw (s 9)) (42 + c) = s (42 + c) from upd_ne (by omega)]
      refine ex_if_ne (pc := 90) (tgt := 99) dX2_moveThief_90 (by decide) (fun c_90 => ?_) (fun c_90 => ?_)
      · skip
        refine ex_vret dX2_moveThief_99 rfl ?_
        refine qv_mk ?_
        first
        | (rw [mv_wall (by rw [hσ, hth]; exact hx) (show wll s c = true from decide_eq_true (Decidable.not_not.mp (fun q => c_90 (bI_f q))))]; done)
        | (rw [mv_go (s := s) (by rw [hσ, hth]; exact hx) (fun q => (bI_0.mp c_90) (of_decide_eq_true q)), List.set_set]; done)
      · skip
        refine ex_aload_n (pc := 93) dX2_moveThief_93 rfl ?_
        refine ex_iload (pc := 94) dX2_moveThief_94 rfl ?_
        refine ex_put (pc := 96) dX2_moveThief_96 fp_X2_25 h1 (Nat.le_of_ble_eq_true rfl) rfl rfl ?_
        rw [rm_7]
        refine ex_vret dX2_moveThief_99 rfl ?_
        refine qv_mk ?_
        first
        | (rw [mv_wall (by rw [hσ, hth]; exact hx) (show wll s c = true from decide_eq_true (Decidable.not_not.mp (fun q => c_90 (bI_f q))))]; done)
        | (rw [mv_go (s := s) (by rw [hσ, hth]; exact hx) (fun q => (bI_0.mp c_90) (of_decide_eq_true q)), List.set_set]; done)
  · cases hx : nxt 3 th with
    | none =>
      refine ex_aload_n (pc := 0) dX2_moveThief_0 rfl ?_
      refine cx_VL0i (pc := 1) dX2_moveThief_1 lk_X2_81 hR.1 rfl (Nat.le_of_ble_eq_true rfl) (Nat.le_of_ble_eq_true rfl) (by omega) (c_R_draw hR) (fun h_1 x_1 q_1 => ?_)
      obtain ⟨e_1, rfl⟩ := q_1
      rw [e_1]
      refine ex_iconst (pc := 4) (v := (nI 4)) dX2_moveThief_4 (by decide) ?_
      refine ex_irem (pc := 5) dX2_moveThief_5 (by decide) ?_
      rw [drv_rem (s 9) (by omega) (by omega), hσ]
      refine sx_istore_n (pc := 6) dX2_moveThief_6 rfl (by decide) ?_
      show Ex _ _ _ _ _ _ [_, _, _, _, _] _ _ _
      refine ex_aload_n (pc := 7) dX2_moveThief_7 rfl ?_
      refine ex_get (pc := 8) dX2_moveThief_8 fl_X2_25 h1 rfl ?_
      refine ex_bipush (pc := 11) (v := (nI 8)) dX2_moveThief_11 (by decide) ?_
      refine ex_idiv (pc := 13) dX2_moveThief_13 (by decide) ?_
      rw [show upd s 9 (drw (s 9)) 7 = nI th from (upd_ne (by decide)).trans e7]
      refine sx_istore_n (pc := 14) dX2_moveThief_14 rfl (by decide) ?_
      show Ex _ _ _ _ _ _ [_, _, _, _, _] _ _ _
      refine ex_aload_n (pc := 15) dX2_moveThief_15 rfl ?_
      refine ex_get (pc := 16) dX2_moveThief_16 fl_X2_25 h1 rfl ?_
      refine ex_bipush (pc := 19) (v := (nI 8)) dX2_moveThief_19 (by decide) ?_
      refine ex_irem (pc := 21) dX2_moveThief_21 (by decide) ?_
      rw [show upd s 9 (drw (s 9)) 7 = nI th from (upd_ne (by decide)).trans e7]
      refine sx_istore_n (pc := 22) dX2_moveThief_22 rfl (by decide) ?_
      show Ex _ _ _ _ _ _ [_, _, _, _, _] _ _ _
      refine ex_iload_n (pc := 23) dX2_moveThief_23 rfl ?_
      refine bx_if_ne_t (pc := 24) (tgt := 33) dX2_moveThief_24 (by decide) (by decide) ?_
      refine ex_iload_n (pc := 33) dX2_moveThief_33 rfl ?_
      refine ex_iconst (pc := 34) (v := (nI 1)) dX2_moveThief_34 (by decide) ?_
      refine bx_icmp_ne_t (pc := 35) (tgt := 44) dX2_moveThief_35 (by decide) (by decide) ?_
      refine ex_iload_n (pc := 44) dX2_moveThief_44 rfl ?_
      refine ex_iconst (pc := 45) (v := (nI 2)) dX2_moveThief_45 (by decide) ?_
      refine bx_icmp_ne_t (pc := 46) (tgt := 55) dX2_moveThief_46 (by decide) (by decide) ?_
      refine sx_dec (pc := 55) dX2_moveThief_55 rfl rfl (by decide) ?_
      show Ex _ _ _ _ _ _ [_, _, _, _, _] _ _ _
      refine ex_iload_n (pc := 58) dX2_moveThief_58 rfl ?_
      refine ex_bipush (pc := 59) (v := (nI 8)) dX2_moveThief_59 (by decide) ?_
      refine ex_imul (pc := 61) dX2_moveThief_61 ?_
      refine ex_iload_n (pc := 62) dX2_moveThief_62 rfl ?_
      refine ex_iadd (pc := 63) dX2_moveThief_63 ?_
      refine sx_istore (pc := 64) dX2_moveThief_64 rfl (by decide) ?_
      show Ex _ _ _ _ _ _ [_, _, _, _, _] _ _ _
      rw [← r32_3 th, ← c32_3 th]
      refine ex_iload_n (pc := 66) dX2_moveThief_66 rfl ?_
      refine ex_bipush (pc := 67) (v := (nI 6)) dX2_moveThief_67 (by decide) ?_
      refine cx_SN2i (pc := 69) dX2_moveThief_69 lk_X2_171 rfl (Nat.le_of_ble_eq_true rfl) (Nat.le_of_ble_eq_true rfl) (by omega) (c_isBelow _ _) (fun h_69 x_69 q_69 => ?_)
      obtain ⟨e_69, f_69⟩ := q_69
      rw [e_69, f_69]
      refine ex_if_eq (pc := 72) (tgt := 99) dX2_moveThief_72 (by decide) (fun c_72 => ?_) (fun c_72 => ?_)
      · skip
        refine ex_vret dX2_moveThief_99 rfl ?_
        refine qv_mk ?_
        rw [mv_same (by rw [hσ, hth]; exact hx)]
      · skip
        refine ex_iload_n (pc := 75) dX2_moveThief_75 rfl ?_
        refine ex_bipush (pc := 76) (v := (nI 8)) dX2_moveThief_76 (by decide) ?_
        refine cx_SN2i (pc := 78) dX2_moveThief_78 lk_X2_171 rfl (Nat.le_of_ble_eq_true rfl) (Nat.le_of_ble_eq_true rfl) (by omega) (c_isBelow _ _) (fun h_78 x_78 q_78 => ?_)
        obtain ⟨e_78, f_78⟩ := q_78
        rw [e_78, f_78]
        refine ex_if_eq (pc := 81) (tgt := 99) dX2_moveThief_81 (by decide) (fun c_81 => ?_) (fun c_81 => ?_)
        · skip
          refine ex_vret dX2_moveThief_99 rfl ?_
          refine qv_mk ?_
          rw [mv_same (by rw [hσ, hth]; exact hx)]
        · skip
          exact absurd ⟨Decidable.not_not.mp (fun q => c_72 (bI_f q)), Decidable.not_not.mp (fun q => c_81 (bI_f q))⟩ (nxt_n (by omega) hth2 hx)
    | some c =>
      have hx1 := nxt_s (by omega) hth2 hx
      refine ex_aload_n (pc := 0) dX2_moveThief_0 rfl ?_
      refine cx_VL0i (pc := 1) dX2_moveThief_1 lk_X2_81 hR.1 rfl (Nat.le_of_ble_eq_true rfl) (Nat.le_of_ble_eq_true rfl) (by omega) (c_R_draw hR) (fun h_1 x_1 q_1 => ?_)
      obtain ⟨e_1, rfl⟩ := q_1
      rw [e_1]
      refine ex_iconst (pc := 4) (v := (nI 4)) dX2_moveThief_4 (by decide) ?_
      refine ex_irem (pc := 5) dX2_moveThief_5 (by decide) ?_
      rw [drv_rem (s 9) (by omega) (by omega), hσ]
      refine sx_istore_n (pc := 6) dX2_moveThief_6 rfl (by decide) ?_
      show Ex _ _ _ _ _ _ [_, _, _, _, _] _ _ _
      refine ex_aload_n (pc := 7) dX2_moveThief_7 rfl ?_
      refine ex_get (pc := 8) dX2_moveThief_8 fl_X2_25 h1 rfl ?_
      refine ex_bipush (pc := 11) (v := (nI 8)) dX2_moveThief_11 (by decide) ?_
      refine ex_idiv (pc := 13) dX2_moveThief_13 (by decide) ?_
      rw [show upd s 9 (drw (s 9)) 7 = nI th from (upd_ne (by decide)).trans e7]
      refine sx_istore_n (pc := 14) dX2_moveThief_14 rfl (by decide) ?_
      show Ex _ _ _ _ _ _ [_, _, _, _, _] _ _ _
      refine ex_aload_n (pc := 15) dX2_moveThief_15 rfl ?_
      refine ex_get (pc := 16) dX2_moveThief_16 fl_X2_25 h1 rfl ?_
      refine ex_bipush (pc := 19) (v := (nI 8)) dX2_moveThief_19 (by decide) ?_
      refine ex_irem (pc := 21) dX2_moveThief_21 (by decide) ?_
      rw [show upd s 9 (drw (s 9)) 7 = nI th from (upd_ne (by decide)).trans e7]
      refine sx_istore_n (pc := 22) dX2_moveThief_22 rfl (by decide) ?_
      show Ex _ _ _ _ _ _ [_, _, _, _, _] _ _ _
      refine ex_iload_n (pc := 23) dX2_moveThief_23 rfl ?_
      refine bx_if_ne_t (pc := 24) (tgt := 33) dX2_moveThief_24 (by decide) (by decide) ?_
      refine ex_iload_n (pc := 33) dX2_moveThief_33 rfl ?_
      refine ex_iconst (pc := 34) (v := (nI 1)) dX2_moveThief_34 (by decide) ?_
      refine bx_icmp_ne_t (pc := 35) (tgt := 44) dX2_moveThief_35 (by decide) (by decide) ?_
      refine ex_iload_n (pc := 44) dX2_moveThief_44 rfl ?_
      refine ex_iconst (pc := 45) (v := (nI 2)) dX2_moveThief_45 (by decide) ?_
      refine bx_icmp_ne_t (pc := 46) (tgt := 55) dX2_moveThief_46 (by decide) (by decide) ?_
      refine sx_dec (pc := 55) dX2_moveThief_55 rfl rfl (by decide) ?_
      show Ex _ _ _ _ _ _ [_, _, _, _, _] _ _ _
      refine ex_iload_n (pc := 58) dX2_moveThief_58 rfl ?_
      refine ex_bipush (pc := 59) (v := (nI 8)) dX2_moveThief_59 (by decide) ?_
      refine ex_imul (pc := 61) dX2_moveThief_61 ?_
      refine ex_iload_n (pc := 62) dX2_moveThief_62 rfl ?_
      refine ex_iadd (pc := 63) dX2_moveThief_63 ?_
      refine sx_istore (pc := 64) dX2_moveThief_64 rfl (by decide) ?_
      show Ex _ _ _ _ _ _ [_, _, _, _, _] _ _ _
      rw [← r32_3 th, ← c32_3 th]
      refine ex_iload_n (pc := 66) dX2_moveThief_66 rfl ?_
      refine ex_bipush (pc := 67) (v := (nI 6)) dX2_moveThief_67 (by decide) ?_
      refine cx_SN2i (pc := 69) dX2_moveThief_69 lk_X2_171 rfl (Nat.le_of_ble_eq_true rfl) (Nat.le_of_ble_eq_true rfl) (by omega) (c_isBelow _ _) (fun h_69 x_69 q_69 => ?_)
      obtain ⟨e_69, f_69⟩ := q_69
      rw [e_69, f_69]
      refine bx_if_eq_f (pc := 72) (tgt := 99) dX2_moveThief_72 (by decide) (by rw [bI_t hx1.1.1]; decide) ?_
      refine ex_iload_n (pc := 75) dX2_moveThief_75 rfl ?_
      refine ex_bipush (pc := 76) (v := (nI 8)) dX2_moveThief_76 (by decide) ?_
      refine cx_SN2i (pc := 78) dX2_moveThief_78 lk_X2_171 rfl (Nat.le_of_ble_eq_true rfl) (Nat.le_of_ble_eq_true rfl) (by omega) (c_isBelow _ _) (fun h_78 x_78 q_78 => ?_)
      obtain ⟨e_78, f_78⟩ := q_78
      rw [e_78, f_78]
      refine bx_if_eq_f (pc := 81) (tgt := 99) dX2_moveThief_81 (by decide) (by rw [bI_t hx1.1.2]; decide) ?_
      refine ex_aload_n (pc := 84) dX2_moveThief_84 rfl ?_
      refine ex_iload (pc := 85) dX2_moveThief_85 rfl ?_
      rw [show r32 3 th * nI 8 + c32 3 th = nI c from hx1.2.1]
      refine cx_VL1i (pc := 87) dX2_moveThief_87 lk_X2_68 h1 rfl (Nat.le_of_ble_eq_true rfl) (Nat.le_of_ble_eq_true rfl) (by omega) (c_R_hasWall hR1 hx1.2.2.2) (fun h_87 x_87 q_87 => ?_)
      obtain ⟨e_87, f_87⟩ := q_87
      rw [e_87, f_87]
      rw [show upd s 9 (drw (s 9)) (42 + c) = s (42 + c) from upd_ne (by omega)]
      refine ex_if_ne (pc := 90) (tgt := 99) dX2_moveThief_90 (by decide) (fun c_90 => ?_) (fun c_90 => ?_)
      · skip
        refine ex_vret dX2_moveThief_99 rfl ?_
        refine qv_mk ?_
        first
        | (rw [mv_wall (by rw [hσ, hth]; exact hx) (show wll s c = true from decide_eq_true (Decidable.not_not.mp (fun q => c_90 (bI_f q))))]; done)
        | (rw [mv_go (s := s) (by rw [hσ, hth]; exact hx) (fun q => (bI_0.mp c_90) (of_decide_eq_true q)), List.set_set]; done)
      · skip
        refine ex_aload_n (pc := 93) dX2_moveThief_93 rfl ?_
        refine ex_iload (pc := 94) dX2_moveThief_94 rfl ?_
        refine ex_put (pc := 96) dX2_moveThief_96 fp_X2_25 h1 (Nat.le_of_ble_eq_true rfl) rfl rfl ?_
        rw [rm_7]
        refine ex_vret dX2_moveThief_99 rfl ?_
        refine qv_mk ?_
        first
        | (rw [mv_wall (by rw [hσ, hth]; exact hx) (show wll s c = true from decide_eq_true (Decidable.not_not.mp (fun q => c_90 (bI_f q))))]; done)
        | (rw [mv_go (s := s) (by rw [hσ, hth]; exact hx) (fun q => (bI_0.mp c_90) (of_decide_eq_true q)), List.set_set]; done)

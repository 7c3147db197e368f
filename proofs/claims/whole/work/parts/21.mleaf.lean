/-! the reference's leaves -/
abbrev moC (g : Gl) (z : Nat → Int32) : va_E := ob 7 [.ref (g.1 + 76), .ref (g.1 + 77), .ref (g.1 + 78), .int (z 3), .ref (g.1 + 79), .ref (g.1 + 80), .ref (g.1 + 81), .ref (g.1 + 82), .ref (g.1 + 83), .ref (g.1 + 84), .ref (g.1 + 85), .ref (g.1 + 86), .ref (g.1 + 87), .ref (g.1 + 88), .ref (g.1 + 89), .int (z 15), .int (z 16), .int (z 17), .int (z 18), .int (z 19), .int (z 20), .int (z 21), .int (z 22), .int (z 23), .int (z 24), .int (z 25), .ref (g.1 + 90), .ref (g.1 + 91), .ref (g.1 + 92), .ref (g.1 + 93), .int (z 30), .ref (g.1 + 94)]
def Ms (g : Gl) (h : AH) (z s : Nat → Int32) : Prop := h[75]? = some (moC g z) ∧ h[76]? = some (ia g 3090 s)
set_option maxHeartbeats 4000000 in
set_option maxRecDepth 100000 in
theorem c_M_isIn {g : Gl} {d ks : Nat} {h : AH} (v lo hi : Int64) : Ex g mX7_isIn d 0 ks 0 [some (.long v), none, some (.long lo), none, some (.long hi), none] [] h (qi (fun h' r => h' = h ∧ r = bI (lo ≤ v ∧ v ≤ hi))) := by
  refine ex_lload_n (pc := 0) dX7_isIn_0 rfl ?_
  refine ex_lload_n (pc := 1) dX7_isIn_1 rfl ?_
  refine ex_lcmp (pc := 2) dX7_isIn_2 ?_
  refine ex_if_lt (pc := 3) (tgt := 17) dX7_isIn_3 (by decide) (fun c_3 => ?_) (fun c_3 => ?_)
  · skip
    refine ex_iconst (pc := 17) (v := 0) dX7_isIn_17 (by decide) ?_
    refine ex_zret dX7_isIn_18 rfl (by first | exact Or.inl rfl | exact Or.inr rfl | exact bI_01 _) ?_
    refine qi_mk ⟨rfl, ?_⟩
    simp only [lg_lt0, lg_gt0] at *
    first | (simp_all [bI]; done) | grind [bI]
  · skip
    refine ex_lload_n (pc := 6) dX7_isIn_6 rfl ?_
    refine ex_lload (pc := 7) dX7_isIn_7 rfl ?_
    refine ex_lcmp (pc := 9) dX7_isIn_9 ?_
    refine ex_if_gt (pc := 10) (tgt := 17) dX7_isIn_10 (by decide) (fun c_10 => ?_) (fun c_10 => ?_)
    · skip
      refine ex_iconst (pc := 17) (v := 0) dX7_isIn_17 (by decide) ?_
      refine ex_zret dX7_isIn_18 rfl (by first | exact Or.inl rfl | exact Or.inr rfl | exact bI_01 _) ?_
      refine qi_mk ⟨rfl, ?_⟩
      simp only [lg_lt0, lg_gt0] at *
      first | (simp_all [bI]; done) | grind [bI]
    · skip
      refine ex_iconst (pc := 13) (v := 1) dX7_isIn_13 (by decide) ?_
      refine ex_goto (pc := 14) (tgt := 18) dX7_isIn_14 (by decide) ?_
      refine ex_zret dX7_isIn_18 rfl (by first | exact Or.inl rfl | exact Or.inr rfl | exact bI_01 _) ?_
      refine qi_mk ⟨rfl, ?_⟩
      simp only [lg_lt0, lg_gt0] at *
      first | (simp_all [bI]; done) | grind [bI]
def orN (v : Int32) : Int32 := if v < 0 then -1000000005 else v
def wth (v m : Int32) : Int32 := if v < 0 then 0 else if m < v then m else v
def offI (a b : Int32) : Int32 := if a < b then b - a else a - b
def isO (own kind : Int32) : Bool := decide (own = kind ∨ kind = 0 ∨ (kind = nI 1 ∧ own = nI 3) ∨ (kind = nI 2 ∧ own = nI 4))
def ahM (si rows cols : Int32) : Int32 := if si = 0 then -rows else if si = nI 1 then cols else if si = nI 2 then rows else -cols
def nrs (a b : Int32) : Int32 := if nI 2 * a + b < 0 ∧ ¬ (nI 2 * a + b) / (nI 2 * b) * nI 2 * b = nI 2 * a + b then (nI 2 * a + b) / (nI 2 * b) - nI 1 else (nI 2 * a + b) / (nI 2 * b)
def lkM (kd si rows cols : Int32) : Bool := if kd = nI 1 then decide (offI (ahM (rm32 (si + nI 1) (nI 4)) rows cols) 0 ≤ ahM si rows cols) else if kd = nI 3 then decide (0 ≤ ahM si rows cols ∧ offI (ahM (rm32 (si + nI 1) (nI 4)) rows cols) 0 = 0) else if kd = nI 4 then decide (offI rows 0 + offI cols 0 ≤ nI 2) else true
set_option maxHeartbeats 4000000 in
set_option maxRecDepth 100000 in
theorem c_M_orNone {g : Gl} {d ks : Nat} {h : AH} (v : Int32) : Ex g mX7_orNone d 0 ks 0 [some (.int v)] [] h (qi (fun h' r => h' = h ∧ r = orN v)) := by
  refine ex_iload_n (pc := 0) dX7_orNone_0 rfl ?_
  refine ex_if_ge (pc := 1) (tgt := 9) dX7_orNone_1 (by decide) (fun c_1 => ?_) (fun c_1 => ?_)
  · skip
    refine ex_iload_n (pc := 9) dX7_orNone_9 rfl ?_
    refine ex_ret dX7_orNone_10 rfl ?_
    refine qi_mk ⟨rfl, ?_⟩
    first | (simp_all [orN, bI, nI_eq, nI_0]; done) | (simp_all [orN, bI, nI_eq, nI_0]; grind) | grind [orN, bI]
  · skip
    refine ex_ldc (pc := 4) dX7_orNone_4 cn_X7_68 ?_
    refine ex_goto (pc := 6) (tgt := 10) dX7_orNone_6 (by decide) ?_
    refine ex_ret dX7_orNone_10 rfl ?_
    refine qi_mk ⟨rfl, ?_⟩
    first | (simp_all [orN, bI, nI_eq, nI_0]; done) | (simp_all [orN, bI, nI_eq, nI_0]; grind) | grind [orN, bI]
set_option maxHeartbeats 4000000 in
set_option maxRecDepth 100000 in
theorem c_M_within {g : Gl} {d ks : Nat} {h : AH} (v m : Int32) : Ex g mX7_within d 0 ks 0 [some (.int v), some (.int m)] [] h (qi (fun h' r => h' = h ∧ r = wth v m)) := by
  refine ex_iload_n (pc := 0) dX7_within_0 rfl ?_
  refine ex_if_ge (pc := 1) (tgt := 8) dX7_within_1 (by decide) (fun c_1 => ?_) (fun c_1 => ?_)
  · skip
    refine ex_iload_n (pc := 8) dX7_within_8 rfl ?_
    refine ex_iload_n (pc := 9) dX7_within_9 rfl ?_
    refine ex_icmp_le (pc := 10) (tgt := 17) dX7_within_10 (by decide) (fun c_10 => ?_) (fun c_10 => ?_)
    · skip
      refine ex_iload_n (pc := 17) dX7_within_17 rfl ?_
      refine ex_ret dX7_within_18 rfl ?_
      refine qi_mk ⟨rfl, ?_⟩
      first | (simp_all [wth, bI, nI_eq, nI_0]; done) | (simp_all [wth, bI, nI_eq, nI_0]; grind) | grind [wth, bI]
    · skip
      refine ex_iload_n (pc := 13) dX7_within_13 rfl ?_
      refine ex_goto (pc := 14) (tgt := 18) dX7_within_14 (by decide) ?_
      refine ex_ret dX7_within_18 rfl ?_
      refine qi_mk ⟨rfl, ?_⟩
      first | (simp_all [wth, bI, nI_eq, nI_0]; done) | (simp_all [wth, bI, nI_eq, nI_0]; grind) | grind [wth, bI]
  · skip
    refine ex_iconst (pc := 4) (v := 0) dX7_within_4 (by decide) ?_
    refine ex_goto (pc := 5) (tgt := 18) dX7_within_5 (by decide) ?_
    refine ex_ret dX7_within_18 rfl ?_
    refine qi_mk ⟨rfl, ?_⟩
    first | (simp_all [wth, bI, nI_eq, nI_0]; done) | (simp_all [wth, bI, nI_eq, nI_0]; grind) | grind [wth, bI]
set_option maxHeartbeats 4000000 in
set_option maxRecDepth 100000 in
theorem c_M_off {g : Gl} {d ks : Nat} {h : AH} (a b : Int32) : Ex g mX7_off d 0 ks 0 [some (.int a), some (.int b)] [] h (qi (fun h' r => h' = h ∧ r = offI a b)) := by
  refine ex_iload_n (pc := 0) dX7_off_0 rfl ?_
  refine ex_iload_n (pc := 1) dX7_off_1 rfl ?_
  refine ex_icmp_ge (pc := 2) (tgt := 11) dX7_off_2 (by decide) (fun c_2 => ?_) (fun c_2 => ?_)
  · skip
    refine ex_iload_n (pc := 11) dX7_off_11 rfl ?_
    refine ex_iload_n (pc := 12) dX7_off_12 rfl ?_
    refine ex_isub (pc := 13) dX7_off_13 ?_
    refine ex_ret dX7_off_14 rfl ?_
    refine qi_mk ⟨rfl, ?_⟩
    first | (simp_all [offI, bI, nI_eq, nI_0]; done) | (simp_all [offI, bI, nI_eq, nI_0]; grind) | grind [offI, bI]
  · skip
    refine ex_iload_n (pc := 5) dX7_off_5 rfl ?_
    refine ex_iload_n (pc := 6) dX7_off_6 rfl ?_
    refine ex_isub (pc := 7) dX7_off_7 ?_
    refine ex_goto (pc := 8) (tgt := 14) dX7_off_8 (by decide) ?_
    refine ex_ret dX7_off_14 rfl ?_
    refine qi_mk ⟨rfl, ?_⟩
    first | (simp_all [offI, bI, nI_eq, nI_0]; done) | (simp_all [offI, bI, nI_eq, nI_0]; grind) | grind [offI, bI]
set_option maxHeartbeats 4000000 in
set_option maxRecDepth 100000 in
theorem c_M_isOf {g : Gl} {d ks : Nat} {h : AH} (a b : Int32) : Ex g mX7_isOf d 0 ks 0 [some (.int a), some (.int b)] [] h (qi (fun h' r => h' = h ∧ r = bI (isO a b = true))) := by
  refine ex_iload_n (pc := 0) dX7_isOf_0 rfl ?_
  refine ex_iload_n (pc := 1) dX7_isOf_1 rfl ?_
  refine ex_icmp_eq (pc := 2) (tgt := 29) dX7_isOf_2 (by decide) (fun c_2 => ?_) (fun c_2 => ?_)
  · skip
    refine ex_iconst (pc := 29) (v := 1) dX7_isOf_29 (by decide) ?_
    refine ex_goto (pc := 30) (tgt := 34) dX7_isOf_30 (by decide) ?_
    refine ex_zret dX7_isOf_34 rfl (by first | exact Or.inl rfl | exact Or.inr rfl | exact bI_01 _) ?_
    refine qi_mk ⟨rfl, ?_⟩
    first | (simp_all [isO, bI, nI_eq, nI_0]; done) | (simp_all [isO, bI, nI_eq, nI_0]; grind) | grind [isO, bI]
  · skip
    refine ex_iload_n (pc := 5) dX7_isOf_5 rfl ?_
    refine ex_if_eq (pc := 6) (tgt := 29) dX7_isOf_6 (by decide) (fun c_6 => ?_) (fun c_6 => ?_)
    · skip
      refine ex_iconst (pc := 29) (v := 1) dX7_isOf_29 (by decide) ?_
      refine ex_goto (pc := 30) (tgt := 34) dX7_isOf_30 (by decide) ?_
      refine ex_zret dX7_isOf_34 rfl (by first | exact Or.inl rfl | exact Or.inr rfl | exact bI_01 _) ?_
      refine qi_mk ⟨rfl, ?_⟩
      first | (simp_all [isO, bI, nI_eq, nI_0]; done) | (simp_all [isO, bI, nI_eq, nI_0]; grind) | grind [isO, bI]
    · skip
      refine ex_iload_n (pc := 9) dX7_isOf_9 rfl ?_
      refine ex_iconst (pc := 10) (v := (nI 1)) dX7_isOf_10 (by decide) ?_
      refine ex_icmp_ne (pc := 11) (tgt := 19) dX7_isOf_11 (by decide) (fun c_11 => ?_) (fun c_11 => ?_)
      · skip
        refine ex_iload_n (pc := 19) dX7_isOf_19 rfl ?_
        refine ex_iconst (pc := 20) (v := (nI 2)) dX7_isOf_20 (by decide) ?_
        refine ex_icmp_ne (pc := 21) (tgt := 33) dX7_isOf_21 (by decide) (fun c_21 => ?_) (fun c_21 => ?_)
        · skip
          refine ex_iconst (pc := 33) (v := 0) dX7_isOf_33 (by decide) ?_
          refine ex_zret dX7_isOf_34 rfl (by first | exact Or.inl rfl | exact Or.inr rfl | exact bI_01 _) ?_
          refine qi_mk ⟨rfl, ?_⟩
          first | (simp_all [isO, bI, nI_eq, nI_0]; done) | (simp_all [isO, bI, nI_eq, nI_0]; grind) | grind [isO, bI]
        · skip
          refine ex_iload_n (pc := 24) dX7_isOf_24 rfl ?_
          refine ex_iconst (pc := 25) (v := (nI 4)) dX7_isOf_25 (by decide) ?_
          refine ex_icmp_ne (pc := 26) (tgt := 33) dX7_isOf_26 (by decide) (fun c_26 => ?_) (fun c_26 => ?_)
          · skip
            refine ex_iconst (pc := 33) (v := 0) dX7_isOf_33 (by decide) ?_
            refine ex_zret dX7_isOf_34 rfl (by first | exact Or.inl rfl | exact Or.inr rfl | exact bI_01 _) ?_
            refine qi_mk ⟨rfl, ?_⟩
            first | (simp_all [isO, bI, nI_eq, nI_0]; done) | (simp_all [isO, bI, nI_eq, nI_0]; grind) | grind [isO, bI]
          · skip
            refine ex_iconst (pc := 29) (v := 1) dX7_isOf_29 (by decide) ?_
            refine ex_goto (pc := 30) (tgt := 34) dX7_isOf_30 (by decide) ?_
            refine ex_zret dX7_isOf_34 rfl (by first | exact Or.inl rfl | exact Or.inr rfl | exact bI_01 _) ?_
            refine qi_mk ⟨rfl, ?_⟩
            first | (simp_all [isO, bI, nI_eq, nI_0]; done) | (simp_all [isO, bI, nI_eq, nI_0]; grind) | grind [isO, bI]
      · skip
        refine ex_iload_n (pc := 14) dX7_isOf_14 rfl ?_
        refine ex_iconst (pc := 15) (v := (nI 3)) dX7_isOf_15 (by decide) ?_
        refine ex_icmp_eq (pc := 16) (tgt := 29) dX7_isOf_16 (by decide) (fun c_16 => ?_) (fun c_16 => ?_)
        · skip
          refine ex_iconst (pc := 29) (v := 1) dX7_isOf_29 (by decide) ?_
          refine ex_goto (pc := 30) (tgt := 34) dX7_isOf_30 (by decide) ?_
          refine ex_zret dX7_isOf_34 rfl (by first | exact Or.inl rfl | exact Or.inr rfl | exact bI_01 _) ?_
          refine qi_mk ⟨rfl, ?_⟩
          first | (simp_all [isO, bI, nI_eq, nI_0]; done) | (simp_all [isO, bI, nI_eq, nI_0]; grind) | grind [isO, bI]
        · skip
          refine ex_iload_n (pc := 19) dX7_isOf_19 rfl ?_
          refine ex_iconst (pc := 20) (v := (nI 2)) dX7_isOf_20 (by decide) ?_
          refine ex_icmp_ne (pc := 21) (tgt := 33) dX7_isOf_21 (by decide) (fun c_21 => ?_) (fun c_21 => ?_)
          · skip
            refine ex_iconst (pc := 33) (v := 0) dX7_isOf_33 (by decide) ?_
            refine ex_zret dX7_isOf_34 rfl (by first | exact Or.inl rfl | exact Or.inr rfl | exact bI_01 _) ?_
            refine qi_mk ⟨rfl, ?_⟩
            first | (simp_all [isO, bI, nI_eq, nI_0]; done) | (simp_all [isO, bI, nI_eq, nI_0]; grind) | grind [isO, bI]
          · skip
            refine ex_iload_n (pc := 24) dX7_isOf_24 rfl ?_
            refine ex_iconst (pc := 25) (v := (nI 4)) dX7_isOf_25 (by decide) ?_
            refine ex_icmp_ne (pc := 26) (tgt := 33) dX7_isOf_26 (by decide) (fun c_26 => ?_) (fun c_26 => ?_)
            · skip
              refine ex_iconst (pc := 33) (v := 0) dX7_isOf_33 (by decide) ?_
              refine ex_zret dX7_isOf_34 rfl (by first | exact Or.inl rfl | exact Or.inr rfl | exact bI_01 _) ?_
              refine qi_mk ⟨rfl, ?_⟩
              first | (simp_all [isO, bI, nI_eq, nI_0]; done) | (simp_all [isO, bI, nI_eq, nI_0]; grind) | grind [isO, bI]
            · skip
              refine ex_iconst (pc := 29) (v := 1) dX7_isOf_29 (by decide) ?_
              refine ex_goto (pc := 30) (tgt := 34) dX7_isOf_30 (by decide) ?_
              refine ex_zret dX7_isOf_34 rfl (by first | exact Or.inl rfl | exact Or.inr rfl | exact bI_01 _) ?_
              refine qi_mk ⟨rfl, ?_⟩
              first | (simp_all [isO, bI, nI_eq, nI_0]; done) | (simp_all [isO, bI, nI_eq, nI_0]; grind) | grind [isO, bI]
set_option maxHeartbeats 4000000 in
set_option maxRecDepth 100000 in
theorem c_M_ahead {g : Gl} {d ks : Nat} {h : AH} (a b c : Int32) : Ex g mX7_ahead d 0 ks 0 [some (.int a), some (.int b), some (.int c)] [] h (qi (fun h' r => h' = h ∧ r = ahM a b c)) := by
  refine ex_iload_n (pc := 0) dX7_ahead_0 rfl ?_
  refine ex_if_ne (pc := 1) (tgt := 9) dX7_ahead_1 (by decide) (fun c_1 => ?_) (fun c_1 => ?_)
  · skip
    refine ex_iload_n (pc := 9) dX7_ahead_9 rfl ?_
    refine ex_iconst (pc := 10) (v := (nI 1)) dX7_ahead_10 (by decide) ?_
    refine ex_icmp_ne (pc := 11) (tgt := 18) dX7_ahead_11 (by decide) (fun c_11 => ?_) (fun c_11 => ?_)
    · skip
      refine ex_iload_n (pc := 18) dX7_ahead_18 rfl ?_
      refine ex_iconst (pc := 19) (v := (nI 2)) dX7_ahead_19 (by decide) ?_
      refine ex_icmp_ne (pc := 20) (tgt := 27) dX7_ahead_20 (by decide) (fun c_20 => ?_) (fun c_20 => ?_)
      · skip
        refine ex_iload_n (pc := 27) dX7_ahead_27 rfl ?_
        refine ex_ineg (pc := 28) dX7_ahead_28 ?_
        refine ex_ret dX7_ahead_29 rfl ?_
        refine qi_mk ⟨rfl, ?_⟩
        first | (simp_all [ahM, bI, nI_eq, nI_0]; done) | (simp_all [ahM, bI, nI_eq, nI_0]; grind) | grind [ahM, bI]
      · skip
        refine ex_iload_n (pc := 23) dX7_ahead_23 rfl ?_
        refine ex_goto (pc := 24) (tgt := 29) dX7_ahead_24 (by decide) ?_
        refine ex_ret dX7_ahead_29 rfl ?_
        refine qi_mk ⟨rfl, ?_⟩
        first | (simp_all [ahM, bI, nI_eq, nI_0]; done) | (simp_all [ahM, bI, nI_eq, nI_0]; grind) | grind [ahM, bI]
    · skip
      refine ex_iload_n (pc := 14) dX7_ahead_14 rfl ?_
      refine ex_goto (pc := 15) (tgt := 29) dX7_ahead_15 (by decide) ?_
      refine ex_ret dX7_ahead_29 rfl ?_
      refine qi_mk ⟨rfl, ?_⟩
      first | (simp_all [ahM, bI, nI_eq, nI_0]; done) | (simp_all [ahM, bI, nI_eq, nI_0]; grind) | grind [ahM, bI]
  · skip
    refine ex_iload_n (pc := 4) dX7_ahead_4 rfl ?_
    refine ex_ineg (pc := 5) dX7_ahead_5 ?_
    refine ex_goto (pc := 6) (tgt := 29) dX7_ahead_6 (by decide) ?_
    refine ex_ret dX7_ahead_29 rfl ?_
    refine qi_mk ⟨rfl, ?_⟩
    first | (simp_all [ahM, bI, nI_eq, nI_0]; done) | (simp_all [ahM, bI, nI_eq, nI_0]; grind) | grind [ahM, bI]
set_option maxHeartbeats 4000000 in
set_option maxRecDepth 100000 in
theorem c_M_looks {g : Gl} {d ks : Nat} {h : AH} (hd : 1 ≤ d) (kd si rows cols : Int32) : Ex g mX7_looks d 0 ks 0 [some (.int kd), some (.int si), some (.int rows), some (.int cols), none, none] [] h (qi (fun h' r => h' = h ∧ r = bI (lkM kd si rows cols = true))) := by
  refine ex_iload_n (pc := 0) dX7_looks_0 rfl ?_
  refine ex_iload_n (pc := 1) dX7_looks_1 rfl ?_
  refine ex_iload_n (pc := 2) dX7_looks_2 rfl ?_
  refine cx_SL3i (pc := 3) dX7_looks_3 lk_X7_100 rfl (Nat.le_of_ble_eq_true rfl) (Nat.le_of_ble_eq_true rfl) (by omega) (c_M_ahead _ _ _) (fun h_3 x_3 q_3 => ?_)
  obtain ⟨e_3, rfl⟩ := q_3
  rw [e_3]
  refine sx_istore (pc := 6) dX7_looks_6 rfl (by decide) ?_
  show Ex _ _ _ _ _ _ [_, _, _, _, _, _] _ _ _
  refine ex_iload_n (pc := 8) dX7_looks_8 rfl ?_
  refine ex_iconst (pc := 9) (v := (nI 1)) dX7_looks_9 (by decide) ?_
  refine ex_iadd (pc := 10) dX7_looks_10 ?_
  refine ex_iconst (pc := 11) (v := (nI 4)) dX7_looks_11 (by decide) ?_
  refine ex_irem (pc := 12) dX7_looks_12 (by decide) ?_
  refine ex_iload_n (pc := 13) dX7_looks_13 rfl ?_
  refine ex_iload_n (pc := 14) dX7_looks_14 rfl ?_
  refine cx_SL3i (pc := 15) dX7_looks_15 lk_X7_100 rfl (Nat.le_of_ble_eq_true rfl) (Nat.le_of_ble_eq_true rfl) (by omega) (c_M_ahead _ _ _) (fun h_15 x_15 q_15 => ?_)
  obtain ⟨e_15, rfl⟩ := q_15
  rw [e_15]
  refine ex_iconst (pc := 18) (v := (nI 0)) dX7_looks_18 (by decide) ?_
  refine cx_SL2i (pc := 19) dX7_looks_19 lk_X7_104 rfl (Nat.le_of_ble_eq_true rfl) (Nat.le_of_ble_eq_true rfl) (by omega) (c_M_off _ _) (fun h_19 x_19 q_19 => ?_)
  obtain ⟨e_19, rfl⟩ := q_19
  rw [e_19]
  refine sx_istore (pc := 22) dX7_looks_22 rfl (by decide) ?_
  show Ex _ _ _ _ _ _ [_, _, _, _, _, _] _ _ _
  refine ex_iload_n (pc := 24) dX7_looks_24 rfl ?_
  refine ex_tsw (pc := 25) (n := 4) (l0 := 1) (tg := fun j => [56, 106, 69, 85].getD j 0) (td := 106) dX7_looks_25 rfl rfl (by decide +kernel) (by decide) (by decide) (fun j_25 hj_25 c_25 => ?_) (fun c_25 => ?_)
  · rcases (show j_25 = 0 ∨ j_25 = 1 ∨ j_25 = 2 ∨ j_25 = 3 by omega) with rfl | rfl | rfl | rfl
    · show Ex _ _ _ _ _ 56 _ _ _ _
      have c_25 : _ = nI 1 := c_25
      refine ex_iload (pc := 56) dX7_looks_56 rfl ?_
      refine ex_iload (pc := 58) dX7_looks_58 rfl ?_
      refine ex_icmp_lt (pc := 60) (tgt := 67) dX7_looks_60 (by decide) (fun c_60 => ?_) (fun c_60 => ?_)
      · skip
        refine ex_iconst (pc := 67) (v := 0) dX7_looks_67 (by decide) ?_
        refine ex_zret dX7_looks_68 rfl (by first | exact Or.inl rfl | exact Or.inr rfl | exact bI_01 _) ?_
        refine qi_mk ⟨rfl, ?_⟩
        first | (simp_all [lkM, bI, nI_eq, nI_0]; done) | (simp_all [lkM, bI, nI_eq, nI_0]; grind) | grind [lkM, bI]
      · skip
        refine ex_iconst (pc := 63) (v := 1) dX7_looks_63 (by decide) ?_
        refine ex_goto (pc := 64) (tgt := 68) dX7_looks_64 (by decide) ?_
        refine ex_zret dX7_looks_68 rfl (by first | exact Or.inl rfl | exact Or.inr rfl | exact bI_01 _) ?_
        refine qi_mk ⟨rfl, ?_⟩
        first | (simp_all [lkM, bI, nI_eq, nI_0]; done) | (simp_all [lkM, bI, nI_eq, nI_0]; grind) | grind [lkM, bI]
    · show Ex _ _ _ _ _ 106 _ _ _ _
      have c_25 : _ = nI 2 := c_25
      refine ex_iconst (pc := 106) (v := 1) dX7_looks_106 (by decide) ?_
      refine ex_zret dX7_looks_107 rfl (by first | exact Or.inl rfl | exact Or.inr rfl | exact bI_01 _) ?_
      refine qi_mk ⟨rfl, ?_⟩
      first | (simp_all [lkM, bI, nI_eq, nI_0]; done) | (simp_all [lkM, bI, nI_eq, nI_0]; grind) | grind [lkM, bI]
    · show Ex _ _ _ _ _ 69 _ _ _ _
      have c_25 : _ = nI 3 := c_25
      refine ex_iload (pc := 69) dX7_looks_69 rfl ?_
      refine ex_if_lt (pc := 71) (tgt := 83) dX7_looks_71 (by decide) (fun c_71 => ?_) (fun c_71 => ?_)
      · skip
        refine ex_iconst (pc := 83) (v := 0) dX7_looks_83 (by decide) ?_
        refine ex_zret dX7_looks_84 rfl (by first | exact Or.inl rfl | exact Or.inr rfl | exact bI_01 _) ?_
        refine qi_mk ⟨rfl, ?_⟩
        first | (simp_all [lkM, bI, nI_eq, nI_0]; done) | (simp_all [lkM, bI, nI_eq, nI_0]; grind) | grind [lkM, bI]
      · skip
        refine ex_iload (pc := 74) dX7_looks_74 rfl ?_
        refine ex_if_ne (pc := 76) (tgt := 83) dX7_looks_76 (by decide) (fun c_76 => ?_) (fun c_76 => ?_)
        · skip
          refine ex_iconst (pc := 83) (v := 0) dX7_looks_83 (by decide) ?_
          refine ex_zret dX7_looks_84 rfl (by first | exact Or.inl rfl | exact Or.inr rfl | exact bI_01 _) ?_
          refine qi_mk ⟨rfl, ?_⟩
          first | (simp_all [lkM, bI, nI_eq, nI_0]; done) | (simp_all [lkM, bI, nI_eq, nI_0]; grind) | grind [lkM, bI]
        · skip
          refine ex_iconst (pc := 79) (v := 1) dX7_looks_79 (by decide) ?_
          refine ex_goto (pc := 80) (tgt := 84) dX7_looks_80 (by decide) ?_
          refine ex_zret dX7_looks_84 rfl (by first | exact Or.inl rfl | exact Or.inr rfl | exact bI_01 _) ?_
          refine qi_mk ⟨rfl, ?_⟩
          first | (simp_all [lkM, bI, nI_eq, nI_0]; done) | (simp_all [lkM, bI, nI_eq, nI_0]; grind) | grind [lkM, bI]
    · show Ex _ _ _ _ _ 85 _ _ _ _
      have c_25 : _ = nI 4 := c_25
      refine ex_iload_n (pc := 85) dX7_looks_85 rfl ?_
      refine ex_iconst (pc := 86) (v := (nI 0)) dX7_looks_86 (by decide) ?_
      refine cx_SL2i (pc := 87) dX7_looks_87 lk_X7_104 rfl (Nat.le_of_ble_eq_true rfl) (Nat.le_of_ble_eq_true rfl) (by omega) (c_M_off _ _) (fun h_87 x_87 q_87 => ?_)
      obtain ⟨e_87, rfl⟩ := q_87
      rw [e_87]
      refine ex_iload_n (pc := 90) dX7_looks_90 rfl ?_
      refine ex_iconst (pc := 91) (v := (nI 0)) dX7_looks_91 (by decide) ?_
      refine cx_SL2i (pc := 92) dX7_looks_92 lk_X7_104 rfl (Nat.le_of_ble_eq_true rfl) (Nat.le_of_ble_eq_true rfl) (by omega) (c_M_off _ _) (fun h_92 x_92 q_92 => ?_)
      obtain ⟨e_92, rfl⟩ := q_92
      rw [e_92]
      refine ex_iadd (pc := 95) dX7_looks_95 ?_
      refine ex_iconst (pc := 96) (v := (nI 2)) dX7_looks_96 (by decide) ?_
      refine ex_icmp_gt (pc := 97) (tgt := 104) dX7_looks_97 (by decide) (fun c_97 => ?_) (fun c_97 => ?_)
      · skip
        refine ex_iconst (pc := 104) (v := 0) dX7_looks_104 (by decide) ?_
        refine ex_zret dX7_looks_105 rfl (by first | exact Or.inl rfl | exact Or.inr rfl | exact bI_01 _) ?_
        refine qi_mk ⟨rfl, ?_⟩
        first | (simp_all [lkM, bI, nI_eq, nI_0]; done) | (simp_all [lkM, bI, nI_eq, nI_0]; grind) | grind [lkM, bI]
      · skip
        refine ex_iconst (pc := 100) (v := 1) dX7_looks_100 (by decide) ?_
        refine ex_goto (pc := 101) (tgt := 105) dX7_looks_101 (by decide) ?_
        refine ex_zret dX7_looks_105 rfl (by first | exact Or.inl rfl | exact Or.inr rfl | exact bI_01 _) ?_
        refine qi_mk ⟨rfl, ?_⟩
        first | (simp_all [lkM, bI, nI_eq, nI_0]; done) | (simp_all [lkM, bI, nI_eq, nI_0]; grind) | grind [lkM, bI]
  · skip
    have c_25_1 : ¬ _ = nI 1 := c_25 0 (by decide)
    have c_25_2 : ¬ _ = nI 2 := c_25 1 (by decide)
    have c_25_3 : ¬ _ = nI 3 := c_25 2 (by decide)
    have c_25_4 : ¬ _ = nI 4 := c_25 3 (by decide)
    refine ex_iconst (pc := 106) (v := 1) dX7_looks_106 (by decide) ?_
    refine ex_zret dX7_looks_107 rfl (by first | exact Or.inl rfl | exact Or.inr rfl | exact bI_01 _) ?_
    refine qi_mk ⟨rfl, ?_⟩
    first | (simp_all [lkM, bI, nI_eq, nI_0]; done) | (simp_all [lkM, bI, nI_eq, nI_0]; grind) | grind [lkM, bI]
set_option maxHeartbeats 4000000 in
set_option maxRecDepth 100000 in
theorem c_M_nearest {g : Gl} {d ks : Nat} {h : AH} (a b : Int32) (hb : ¬ nI 2 * b = 0) : Ex g mX7_nearest d 0 ks 0 [some (.int a), some (.int b), none, none] [] h (qi (fun h' r => h' = h ∧ r = nrs a b)) := by
  refine ex_iconst (pc := 0) (v := (nI 2)) dX7_nearest_0 (by decide) ?_
  refine ex_iload_n (pc := 1) dX7_nearest_1 rfl ?_
  refine ex_imul (pc := 2) dX7_nearest_2 ?_
  refine ex_iload_n (pc := 3) dX7_nearest_3 rfl ?_
  refine ex_iadd (pc := 4) dX7_nearest_4 ?_
  refine sx_istore_n (pc := 5) dX7_nearest_5 rfl (by decide) ?_
  show Ex _ _ _ _ _ _ [_, _, _, _] _ _ _
  refine ex_iload_n (pc := 6) dX7_nearest_6 rfl ?_
  refine ex_iconst (pc := 7) (v := (nI 2)) dX7_nearest_7 (by decide) ?_
  refine ex_iload_n (pc := 8) dX7_nearest_8 rfl ?_
  refine ex_imul (pc := 9) dX7_nearest_9 ?_
  refine ex_idiv (pc := 10) dX7_nearest_10 hb ?_
  refine sx_istore_n (pc := 11) dX7_nearest_11 rfl (by decide) ?_
  show Ex _ _ _ _ _ _ [_, _, _, _] _ _ _
  refine ex_iload_n (pc := 12) dX7_nearest_12 rfl ?_
  refine ex_if_ge (pc := 13) (tgt := 31) dX7_nearest_13 (by decide) (fun c_13 => ?_) (fun c_13 => ?_)
  · skip
    refine ex_iload_n (pc := 31) dX7_nearest_31 rfl ?_
    refine ex_ret dX7_nearest_32 rfl ?_
    refine qi_mk ⟨rfl, ?_⟩
    first | (simp_all [nrs, bI, nI_eq, nI_0]; done) | (simp_all [nrs, bI, nI_eq, nI_0]; grind) | grind [nrs, bI]
  · skip
    refine ex_iload_n (pc := 16) dX7_nearest_16 rfl ?_
    refine ex_iconst (pc := 17) (v := (nI 2)) dX7_nearest_17 (by decide) ?_
    refine ex_imul (pc := 18) dX7_nearest_18 ?_
    refine ex_iload_n (pc := 19) dX7_nearest_19 rfl ?_
    refine ex_imul (pc := 20) dX7_nearest_20 ?_
    refine ex_iload_n (pc := 21) dX7_nearest_21 rfl ?_
    refine ex_icmp_eq (pc := 22) (tgt := 31) dX7_nearest_22 (by decide) (fun c_22 => ?_) (fun c_22 => ?_)
    · skip
      refine ex_iload_n (pc := 31) dX7_nearest_31 rfl ?_
      refine ex_ret dX7_nearest_32 rfl ?_
      refine qi_mk ⟨rfl, ?_⟩
      first | (simp_all [nrs, bI, nI_eq, nI_0]; done) | (simp_all [nrs, bI, nI_eq, nI_0]; grind) | grind [nrs, bI]
    · skip
      refine ex_iload_n (pc := 25) dX7_nearest_25 rfl ?_
      refine ex_iconst (pc := 26) (v := (nI 1)) dX7_nearest_26 (by decide) ?_
      refine ex_isub (pc := 27) dX7_nearest_27 ?_
      refine ex_goto (pc := 28) (tgt := 32) dX7_nearest_28 (by decide) ?_
      refine ex_ret dX7_nearest_32 rfl ?_
      refine qi_mk ⟨rfl, ?_⟩
      first | (simp_all [nrs, bI, nI_eq, nI_0]; done) | (simp_all [nrs, bI, nI_eq, nI_0]; grind) | grind [nrs, bI]
set_option maxHeartbeats 4000000 in
set_option maxRecDepth 100000 in
theorem c_M_textAt {g : Gl} {d ks : Nat} {h : AH} {q : Nat} (t : Int32) : Ex g mX7_textAt d 0 ks 0 [some (.ref (g.1 + q)), some (.int t)] [] h (qi (fun h' r => h' = h ∧ r = nI 90 + nI 200 * t)) := by
  refine ex_bipush (pc := 0) (v := (nI 90)) dX7_textAt_0 (by decide) ?_
  refine ex_sipush (pc := 2) (v := (nI 200)) dX7_textAt_2 (by decide) ?_
  refine ex_iload_n (pc := 5) dX7_textAt_5 rfl ?_
  refine ex_imul (pc := 6) dX7_textAt_6 ?_
  refine ex_iadd (pc := 7) dX7_textAt_7 ?_
  refine ex_ret dX7_textAt_8 rfl ?_
  exact qi_mk ⟨rfl, rfl⟩
set_option maxHeartbeats 4000000 in
set_option maxRecDepth 100000 in
theorem c_M_of {g : Gl} {d ks : Nat} {h : AH} {z s : Nat → Int32} (hM : Ms g h z s) {k f : Nat} (hk : 10 + 4 * k + f < 3090) : Ex g mX7_of d 0 ks 0 [some (.ref (g.1 + 75)), some (.int (nI k)), some (.int (nI f))] [] h (qi (fun h' r => h' = h ∧ r = s (10 + 4 * k + f))) := by
  refine ex_aload_n (pc := 0) dX7_of_0 rfl ?_
  refine ex_get (pc := 1) dX7_of_1 fl_X7_7 hM.1 rfl ?_
  refine ex_bipush (pc := 4) (v := (nI 10)) dX7_of_4 (by decide) ?_
  refine ex_iconst (pc := 6) (v := (nI 4)) dX7_of_6 (by decide) ?_
  refine ex_iload_n (pc := 7) dX7_of_7 rfl ?_
  refine ex_imul (pc := 8) dX7_of_8 ?_
  refine ex_iadd (pc := 9) dX7_of_9 ?_
  refine ex_iload_n (pc := 10) dX7_of_10 rfl ?_
  refine ex_iadd (pc := 11) dX7_of_11 ?_
  refine ex_ildn (k := 10 + 4 * k + f) (pc := 12) dX7_of_12 hM.2 (by first | rfl | (simp only [nI_add, nI_mul]; done) | (simp only [nI_add, nI_mul]; rfl)) (by omega) (by decide) ?_
  refine ex_ret dX7_of_13 rfl ?_
  exact qi_mk ⟨rfl, rfl⟩
set_option maxHeartbeats 4000000 in
set_option maxRecDepth 100000 in
theorem c_M_sets {g : Gl} {d ks : Nat} {h : AH} {z s : Nat → Int32} (hM : Ms g h z s) {k f : Nat} (hk : 10 + 4 * k + f < 3090) (v : Int32) : Ex g mX7_sets d 0 ks 0 [some (.ref (g.1 + 75)), some (.int (nI k)), some (.int (nI f)), some (.int v)] [] h (qv (fun h' => h' = h.set 76 (ia g 3090 (upd s (10 + 4 * k + f) v)))) := by
  refine ex_aload_n (pc := 0) dX7_sets_0 rfl ?_
  refine ex_get (pc := 1) dX7_sets_1 fl_X7_7 hM.1 rfl ?_
  refine ex_bipush (pc := 4) (v := (nI 10)) dX7_sets_4 (by decide) ?_
  refine ex_iconst (pc := 6) (v := (nI 4)) dX7_sets_6 (by decide) ?_
  refine ex_iload_n (pc := 7) dX7_sets_7 rfl ?_
  refine ex_imul (pc := 8) dX7_sets_8 ?_
  refine ex_iadd (pc := 9) dX7_sets_9 ?_
  refine ex_iload_n (pc := 10) dX7_sets_10 rfl ?_
  refine ex_iadd (pc := 11) dX7_sets_11 ?_
  refine ex_iload_n (pc := 12) dX7_sets_12 rfl ?_
  refine ex_istn (k := 10 + 4 * k + f) (pc := 13) dX7_sets_13 hM.2 (by first | rfl | (simp only [nI_add, nI_mul]; done) | (simp only [nI_add, nI_mul]; rfl)) (by omega) (by decide) ?_
  refine ex_vret dX7_sets_14 rfl ?_
  exact qv_mk rfl
set_option maxHeartbeats 4000000 in
set_option maxRecDepth 100000 in
theorem c_M_changes {g : Gl} {d ks : Nat} {h : AH} {z s : Nat → Int32} (hM : Ms g h z s) {k : Nat} (hk : k < 3090) (v : Int32) : Ex g mX7_changes d 0 ks 0 [some (.ref (g.1 + 75)), some (.int (nI k)), some (.int v), none] [] h (qi (fun h' r => h' = h.set 76 (ia g 3090 (upd s k v)) ∧ r = s k)) := by
  refine ex_aload_n (pc := 0) dX7_changes_0 rfl ?_
  refine ex_get (pc := 1) dX7_changes_1 fl_X7_7 hM.1 rfl ?_
  refine ex_iload_n (pc := 4) dX7_changes_4 rfl ?_
  refine ex_ildn (k := k) (pc := 5) dX7_changes_5 hM.2 (by first | rfl | (simp only [nI_add, nI_mul]; done) | (simp only [nI_add, nI_mul]; rfl)) (by omega) (by decide) ?_
  refine sx_istore_n (pc := 6) dX7_changes_6 rfl (by decide) ?_
  show Ex _ _ _ _ _ _ [_, _, _, _] _ _ _
  refine ex_aload_n (pc := 7) dX7_changes_7 rfl ?_
  refine ex_get (pc := 8) dX7_changes_8 fl_X7_7 hM.1 rfl ?_
  refine ex_iload_n (pc := 11) dX7_changes_11 rfl ?_
  refine ex_iload_n (pc := 12) dX7_changes_12 rfl ?_
  refine ex_istn (k := k) (pc := 13) dX7_changes_13 hM.2 (by first | rfl | (simp only [nI_add, nI_mul]; done) | (simp only [nI_add, nI_mul]; rfl)) (by omega) (by decide) ?_
  refine ex_iload_n (pc := 14) dX7_changes_14 rfl ?_
  refine ex_ret dX7_changes_15 rfl ?_
  exact qi_mk ⟨rfl, rfl⟩
set_option maxHeartbeats 4000000 in
set_option maxRecDepth 100000 in
theorem c_M_isPost {g : Gl} {d ks : Nat} {h : AH} {z s : Nat → Int32} (hM : Ms g h z s) (hd : 1 ≤ d) (v : Int32) : Ex g mX7_isPost d 0 ks 0 [some (.ref (g.1 + 75)), some (.int v)] [] h (qi (fun h' r => h' = h ∧ r = bI (0 ≤ v.toInt64 ∧ v.toInt64 ≤ (s 0 - nI 1).toInt64))) := by
  refine ex_iload_n (pc := 0) dX7_isPost_0 rfl ?_
  refine ex_i2l (pc := 1) dX7_isPost_1 ?_
  refine ex_lconst (pc := 2) (v := 0) dX7_isPost_2 (by decide) ?_
  refine ex_aload_n (pc := 3) dX7_isPost_3 rfl ?_
  refine ex_get (pc := 4) dX7_isPost_4 fl_X7_7 hM.1 rfl ?_
  refine ex_iconst (pc := 7) (v := (nI 0)) dX7_isPost_7 (by decide) ?_
  refine ex_ildn (k := 0) (pc := 8) dX7_isPost_8 hM.2 (by first | rfl | (simp only [nI_add, nI_mul]; done) | (simp only [nI_add, nI_mul]; rfl)) (by omega) (by decide) ?_
  refine ex_iconst (pc := 9) (v := (nI 1)) dX7_isPost_9 (by decide) ?_
  refine ex_isub (pc := 10) dX7_isPost_10 ?_
  refine ex_i2l (pc := 11) dX7_isPost_11 ?_
  refine cx_SL3i (pc := 12) dX7_isPost_12 lk_X7_69 rfl (Nat.le_of_ble_eq_true rfl) (Nat.le_of_ble_eq_true rfl) (by omega) (c_M_isIn _ _ _) (fun h_12 x_12 q_12 => ?_)
  obtain ⟨e_12, rfl⟩ := q_12
  rw [e_12]
  refine ex_zret dX7_isPost_15 rfl (by first | exact Or.inl rfl | exact Or.inr rfl | exact bI_01 _) ?_
  exact qi_mk ⟨rfl, rfl⟩
set_option maxHeartbeats 4000000 in
set_option maxRecDepth 100000 in
theorem c_M_isText {g : Gl} {d ks : Nat} {h : AH} {z s : Nat → Int32} (hM : Ms g h z s) (hd : 1 ≤ d) (v : Int32) : Ex g mX7_isText d 0 ks 0 [some (.ref (g.1 + 75)), some (.int v)] [] h (qi (fun h' r => h' = h ∧ r = bI (0 ≤ v.toInt64 ∧ v.toInt64 ≤ (s 1 - nI 1).toInt64))) := by
  refine ex_iload_n (pc := 0) dX7_isText_0 rfl ?_
  refine ex_i2l (pc := 1) dX7_isText_1 ?_
  refine ex_lconst (pc := 2) (v := 0) dX7_isText_2 (by decide) ?_
  refine ex_aload_n (pc := 3) dX7_isText_3 rfl ?_
  refine ex_get (pc := 4) dX7_isText_4 fl_X7_7 hM.1 rfl ?_
  refine ex_iconst (pc := 7) (v := (nI 1)) dX7_isText_7 (by decide) ?_
  refine ex_ildn (k := 1) (pc := 8) dX7_isText_8 hM.2 (by first | rfl | (simp only [nI_add, nI_mul]; done) | (simp only [nI_add, nI_mul]; rfl)) (by omega) (by decide) ?_
  refine ex_iconst (pc := 9) (v := (nI 1)) dX7_isText_9 (by decide) ?_
  refine ex_isub (pc := 10) dX7_isText_10 ?_
  refine ex_i2l (pc := 11) dX7_isText_11 ?_
  refine cx_SL3i (pc := 12) dX7_isText_12 lk_X7_69 rfl (Nat.le_of_ble_eq_true rfl) (Nat.le_of_ble_eq_true rfl) (by omega) (c_M_isIn _ _ _) (fun h_12 x_12 q_12 => ?_)
  obtain ⟨e_12, rfl⟩ := q_12
  rw [e_12]
  refine ex_zret dX7_isText_15 rfl (by first | exact Or.inl rfl | exact Or.inr rfl | exact bI_01 _) ?_
  exact qi_mk ⟨rfl, rfl⟩
set_option maxHeartbeats 4000000 in
set_option maxRecDepth 100000 in
theorem c_M_isCell {g : Gl} {d ks : Nat} {h : AH} (hd : 1 ≤ d) (v : Int32) : Ex g mX7_isCell d 0 ks 0 [some (.int v)] [] h (qi (fun h' r => h' = h ∧ r = bI (0 ≤ v.toInt64 ∧ v.toInt64 ≤ 47))) := by
  refine ex_iload_n (pc := 0) dX7_isCell_0 rfl ?_
  refine ex_i2l (pc := 1) dX7_isCell_1 ?_
  refine ex_lconst (pc := 2) (v := 0) dX7_isCell_2 (by decide) ?_
  refine ex_ldc2_w (pc := 3) dX7_isCell_3 cn_X7_74 ?_
  refine cx_SL3i (pc := 6) dX7_isCell_6 lk_X7_69 rfl (Nat.le_of_ble_eq_true rfl) (Nat.le_of_ble_eq_true rfl) (by omega) (c_M_isIn _ _ _) (fun h_6 x_6 q_6 => ?_)
  obtain ⟨e_6, rfl⟩ := q_6
  rw [e_6]
  refine ex_zret dX7_isCell_9 rfl (by first | exact Or.inl rfl | exact Or.inr rfl | exact bI_01 _) ?_
  exact qi_mk ⟨rfl, rfl⟩
def drw (z : Int32) : Int32 := z * 1103515245 + nI 12345
def drv (z : Int32) : Int32 := ush32 (drw z) (nI 8)
set_option maxHeartbeats 4000000 in
set_option maxRecDepth 100000 in
theorem c_M_drawn {g : Gl} {d ks : Nat} {h : AH} {z s : Nat → Int32} (hM : Ms g h z s) : Ex g mX7_drawn d 0 ks 0 [some (.ref (g.1 + 75))] [] h (qi (fun h' r => h' = h.set 76 (ia g 3090 (upd s 9 (drw (s 9)))) ∧ r = drv (s 9))) := by
  refine ex_aload_n (pc := 0) dX7_drawn_0 rfl ?_
  refine ex_get (pc := 1) dX7_drawn_1 fl_X7_7 hM.1 rfl ?_
  refine ex_bipush (pc := 4) (v := (nI 9)) dX7_drawn_4 (by decide) ?_
  refine ex_aload_n (pc := 6) dX7_drawn_6 rfl ?_
  refine ex_get (pc := 7) dX7_drawn_7 fl_X7_7 hM.1 rfl ?_
  refine ex_bipush (pc := 10) (v := (nI 9)) dX7_drawn_10 (by decide) ?_
  refine ex_ildn (k := 9) (pc := 12) dX7_drawn_12 hM.2 (by first | rfl | (simp only [nI_add, nI_mul]; done) | (simp only [nI_add, nI_mul]; rfl)) (by omega) (by decide) ?_
  refine ex_ldc (pc := 13) dX7_drawn_13 cn_X7_73 ?_
  refine ex_imul (pc := 15) dX7_drawn_15 ?_
  refine ex_sipush (pc := 16) (v := (nI 12345)) dX7_drawn_16 (by decide) ?_
  refine ex_iadd (pc := 19) dX7_drawn_19 ?_
  refine ex_istn (k := 9) (pc := 20) dX7_drawn_20 hM.2 (by first | rfl | (simp only [nI_add, nI_mul]; done) | (simp only [nI_add, nI_mul]; rfl)) (by omega) (by decide) ?_
  refine ex_aload_n (pc := 21) dX7_drawn_21 rfl ?_
  refine ex_get (pc := 22) dX7_drawn_22 fl_X7_7 (gs_ne (by decide) hM.1) rfl ?_
  refine ex_bipush (pc := 25) (v := (nI 9)) dX7_drawn_25 (by decide) ?_
  refine ex_ildn (k := 9) (pc := 27) dX7_drawn_27 (gs_eq hM.2) (by first | rfl | (simp only [nI_add, nI_mul]; done) | (simp only [nI_add, nI_mul]; rfl)) (by omega) (by decide) ?_
  refine ex_bipush (pc := 28) (v := (nI 8)) dX7_drawn_28 (by decide) ?_
  refine ex_iushr (pc := 30) dX7_drawn_30 ?_
  refine ex_ret dX7_drawn_31 rfl ?_
  exact qi_mk ⟨rfl, rfl⟩
set_option maxHeartbeats 4000000 in
set_option maxRecDepth 100000 in
theorem c_M_hasWall {g : Gl} {d ks : Nat} {h : AH} {z s : Nat → Int32} (hM : Ms g h z s) {c : Nat} (hc : c < 48) : Ex g mX7_hasWall d 0 ks 0 [some (.ref (g.1 + 75)), some (.int (nI c))] [] h (qi (fun h' r => h' = h ∧ r = bI (s (42 + c) = nI 1))) := by
  refine ex_aload_n (pc := 0) dX7_hasWall_0 rfl ?_
  refine ex_get (pc := 1) dX7_hasWall_1 fl_X7_7 hM.1 rfl ?_
  refine ex_bipush (pc := 4) (v := (nI 42)) dX7_hasWall_4 (by decide) ?_
  refine ex_iload_n (pc := 6) dX7_hasWall_6 rfl ?_
  refine ex_iadd (pc := 7) dX7_hasWall_7 ?_
  refine ex_ildn (k := 42 + c) (pc := 8) dX7_hasWall_8 hM.2 (by first | rfl | (simp only [nI_add, nI_mul]; done) | (simp only [nI_add, nI_mul]; rfl)) (by omega) (by decide) ?_
  refine ex_iconst (pc := 9) (v := (nI 1)) dX7_hasWall_9 (by decide) ?_
  refine ex_icmp_ne (pc := 10) (tgt := 17) dX7_hasWall_10 (by decide) (fun c_10 => ?_) (fun c_10 => ?_)
  · skip
    refine ex_iconst (pc := 17) (v := 0) dX7_hasWall_17 (by decide) ?_
    refine ex_zret dX7_hasWall_18 rfl (by first | exact Or.inl rfl | exact Or.inr rfl | exact bI_01 _) ?_
    refine qi_mk ⟨rfl, ?_⟩
    first | (simp_all [bI, bI, nI_eq, nI_0]; done) | (simp_all [bI, bI, nI_eq, nI_0]; grind) | grind [bI, bI]
  · skip
    refine ex_iconst (pc := 13) (v := 1) dX7_hasWall_13 (by decide) ?_
    refine ex_goto (pc := 14) (tgt := 18) dX7_hasWall_14 (by decide) ?_
    refine ex_zret dX7_hasWall_18 rfl (by first | exact Or.inl rfl | exact Or.inr rfl | exact bI_01 _) ?_
    refine qi_mk ⟨rfl, ?_⟩
    first | (simp_all [bI, bI, nI_eq, nI_0]; done) | (simp_all [bI, bI, nI_eq, nI_0]; grind) | grind [bI, bI]
set_option maxHeartbeats 4000000 in
set_option maxRecDepth 100000 in
theorem c_M_isAwake {g : Gl} {d ks : Nat} {h : AH} {z s : Nat → Int32} (hM : Ms g h z s) (hd : 1 ≤ d) {k : Nat} (hk : k < 8) : Ex g mX7_isAwake d 0 ks 0 [some (.ref (g.1 + 75)), some (.int (nI k))] [] h (qi (fun h' r => h' = h ∧ r = bI (awk (s (10 + 4 * k + 0)) (s (10 + 4 * k + 3)) (s 2) = true))) := by
  refine ex_aload_n (pc := 0) dX7_isAwake_0 rfl ?_
  refine ex_iload_n (pc := 1) dX7_isAwake_1 rfl ?_
  refine ex_iconst (pc := 2) (v := (nI 0)) dX7_isAwake_2 (by decide) ?_
  refine cx_VL2i (pc := 3) dX7_isAwake_3 lk_X7_76 hM.1 rfl (Nat.le_of_ble_eq_true rfl) (Nat.le_of_ble_eq_true rfl) (by omega) (c_M_of hM (f := 0) (by omega)) (fun h_3 x_3 q_3 => ?_)
  obtain ⟨e_3, rfl⟩ := q_3
  rw [e_3]
  refine ex_tsw (pc := 6) (n := 4) (l0 := 2) (tg := fun j => [36, 98, 53, 81].getD j 0) (td := 98) dX7_isAwake_6 rfl rfl (by decide +kernel) (by decide) (by decide) (fun j_6 hj_6 c_6 => ?_) (fun c_6 => ?_)
  · rcases (show j_6 = 0 ∨ j_6 = 1 ∨ j_6 = 2 ∨ j_6 = 3 by omega) with rfl | rfl | rfl | rfl
    · show Ex _ _ _ _ _ 36 _ _ _ _
      have c_6 : _ = nI 2 := c_6
      refine ex_aload_n (pc := 36) dX7_isAwake_36 rfl ?_
      refine ex_get (pc := 37) dX7_isAwake_37 fl_X7_7 hM.1 rfl ?_
      refine ex_iconst (pc := 40) (v := (nI 2)) dX7_isAwake_40 (by decide) ?_
      refine ex_ildn (k := 2) (pc := 41) dX7_isAwake_41 hM.2 (by first | rfl | (simp only [nI_add, nI_mul]; done) | (simp only [nI_add, nI_mul]; rfl)) (by omega) (by decide) ?_
      refine ex_iconst (pc := 42) (v := (nI 2)) dX7_isAwake_42 (by decide) ?_
      refine ex_irem (pc := 43) dX7_isAwake_43 (by decide) ?_
      refine ex_if_ne (pc := 44) (tgt := 51) dX7_isAwake_44 (by decide) (fun c_44 => ?_) (fun c_44 => ?_)
      · skip
        refine ex_iconst (pc := 51) (v := 0) dX7_isAwake_51 (by decide) ?_
        refine ex_zret dX7_isAwake_52 rfl (by first | exact Or.inl rfl | exact Or.inr rfl | exact bI_01 _) ?_
        refine qi_mk ⟨rfl, ?_⟩
        first | (simp_all [awk, bI, nI_eq, nI_0]; done) | (simp_all [awk, bI, nI_eq, nI_0]; grind) | grind [awk, bI]
      · skip
        refine ex_iconst (pc := 47) (v := 1) dX7_isAwake_47 (by decide) ?_
        refine ex_goto (pc := 48) (tgt := 52) dX7_isAwake_48 (by decide) ?_
        refine ex_zret dX7_isAwake_52 rfl (by first | exact Or.inl rfl | exact Or.inr rfl | exact bI_01 _) ?_
        refine qi_mk ⟨rfl, ?_⟩
        first | (simp_all [awk, bI, nI_eq, nI_0]; done) | (simp_all [awk, bI, nI_eq, nI_0]; grind) | grind [awk, bI]
    · show Ex _ _ _ _ _ 98 _ _ _ _
      have c_6 : _ = nI 3 := c_6
      refine ex_iconst (pc := 98) (v := 1) dX7_isAwake_98 (by decide) ?_
      refine ex_zret dX7_isAwake_99 rfl (by first | exact Or.inl rfl | exact Or.inr rfl | exact bI_01 _) ?_
      refine qi_mk ⟨rfl, ?_⟩
      first | (simp_all [awk, bI, nI_eq, nI_0]; done) | (simp_all [awk, bI, nI_eq, nI_0]; grind) | grind [awk, bI]
    · show Ex _ _ _ _ _ 53 _ _ _ _
      have c_6 : _ = nI 4 := c_6
      refine ex_aload_n (pc := 53) dX7_isAwake_53 rfl ?_
      refine ex_get (pc := 54) dX7_isAwake_54 fl_X7_7 hM.1 rfl ?_
      refine ex_iconst (pc := 57) (v := (nI 2)) dX7_isAwake_57 (by decide) ?_
      refine ex_ildn (k := 2) (pc := 58) dX7_isAwake_58 hM.2 (by first | rfl | (simp only [nI_add, nI_mul]; done) | (simp only [nI_add, nI_mul]; rfl)) (by omega) (by decide) ?_
      refine ex_iconst (pc := 59) (v := (nI 2)) dX7_isAwake_59 (by decide) ?_
      refine ex_irem (pc := 60) dX7_isAwake_60 (by decide) ?_
      refine ex_if_eq (pc := 61) (tgt := 75) dX7_isAwake_61 (by decide) (fun c_61 => ?_) (fun c_61 => ?_)
      · skip
        refine ex_iconst (pc := 75) (v := 1) dX7_isAwake_75 (by decide) ?_
        refine ex_goto (pc := 76) (tgt := 80) dX7_isAwake_76 (by decide) ?_
        refine ex_zret dX7_isAwake_80 rfl (by first | exact Or.inl rfl | exact Or.inr rfl | exact bI_01 _) ?_
        refine qi_mk ⟨rfl, ?_⟩
        first | (simp_all [awk, bI, nI_eq, nI_0]; done) | (simp_all [awk, bI, nI_eq, nI_0]; grind) | grind [awk, bI]
      · skip
        refine ex_aload_n (pc := 64) dX7_isAwake_64 rfl ?_
        refine ex_get (pc := 65) dX7_isAwake_65 fl_X7_7 hM.1 rfl ?_
        refine ex_iconst (pc := 68) (v := (nI 2)) dX7_isAwake_68 (by decide) ?_
        refine ex_ildn (k := 2) (pc := 69) dX7_isAwake_69 hM.2 (by first | rfl | (simp only [nI_add, nI_mul]; done) | (simp only [nI_add, nI_mul]; rfl)) (by omega) (by decide) ?_
        refine ex_iconst (pc := 70) (v := (nI 3)) dX7_isAwake_70 (by decide) ?_
        refine ex_irem (pc := 71) dX7_isAwake_71 (by decide) ?_
        refine ex_if_ne (pc := 72) (tgt := 79) dX7_isAwake_72 (by decide) (fun c_72 => ?_) (fun c_72 => ?_)
        · skip
          refine ex_iconst (pc := 79) (v := 0) dX7_isAwake_79 (by decide) ?_
          refine ex_zret dX7_isAwake_80 rfl (by first | exact Or.inl rfl | exact Or.inr rfl | exact bI_01 _) ?_
          refine qi_mk ⟨rfl, ?_⟩
          first | (simp_all [awk, bI, nI_eq, nI_0]; done) | (simp_all [awk, bI, nI_eq, nI_0]; grind) | grind [awk, bI]
        · skip
          refine ex_iconst (pc := 75) (v := 1) dX7_isAwake_75 (by decide) ?_
          refine ex_goto (pc := 76) (tgt := 80) dX7_isAwake_76 (by decide) ?_
          refine ex_zret dX7_isAwake_80 rfl (by first | exact Or.inl rfl | exact Or.inr rfl | exact bI_01 _) ?_
          refine qi_mk ⟨rfl, ?_⟩
          first | (simp_all [awk, bI, nI_eq, nI_0]; done) | (simp_all [awk, bI, nI_eq, nI_0]; grind) | grind [awk, bI]
    · show Ex _ _ _ _ _ 81 _ _ _ _
      have c_6 : _ = nI 5 := c_6
      refine ex_aload_n (pc := 81) dX7_isAwake_81 rfl ?_
      refine ex_iload_n (pc := 82) dX7_isAwake_82 rfl ?_
      refine ex_iconst (pc := 83) (v := (nI 3)) dX7_isAwake_83 (by decide) ?_
      refine cx_VL2i (pc := 84) dX7_isAwake_84 lk_X7_76 hM.1 rfl (Nat.le_of_ble_eq_true rfl) (Nat.le_of_ble_eq_true rfl) (by omega) (c_M_of hM (f := 3) (by omega)) (fun h_84 x_84 q_84 => ?_)
      obtain ⟨e_84, rfl⟩ := q_84
      rw [e_84]
      refine ex_bipush (pc := 87) (v := (nI 50)) dX7_isAwake_87 (by decide) ?_
      refine ex_icmp_ge (pc := 89) (tgt := 96) dX7_isAwake_89 (by decide) (fun c_89 => ?_) (fun c_89 => ?_)
      · skip
        refine ex_iconst (pc := 96) (v := 0) dX7_isAwake_96 (by decide) ?_
        refine ex_zret dX7_isAwake_97 rfl (by first | exact Or.inl rfl | exact Or.inr rfl | exact bI_01 _) ?_
        refine qi_mk ⟨rfl, ?_⟩
        first | (simp_all [awk, bI, nI_eq, nI_0]; done) | (simp_all [awk, bI, nI_eq, nI_0]; grind) | grind [awk, bI]
      · skip
        refine ex_iconst (pc := 92) (v := 1) dX7_isAwake_92 (by decide) ?_
        refine ex_goto (pc := 93) (tgt := 97) dX7_isAwake_93 (by decide) ?_
        refine ex_zret dX7_isAwake_97 rfl (by first | exact Or.inl rfl | exact Or.inr rfl | exact bI_01 _) ?_
        refine qi_mk ⟨rfl, ?_⟩
        first | (simp_all [awk, bI, nI_eq, nI_0]; done) | (simp_all [awk, bI, nI_eq, nI_0]; grind) | grind [awk, bI]
  · skip
    have c_6_2 : ¬ _ = nI 2 := c_6 0 (by decide)
    have c_6_3 : ¬ _ = nI 3 := c_6 1 (by decide)
    have c_6_4 : ¬ _ = nI 4 := c_6 2 (by decide)
    have c_6_5 : ¬ _ = nI 5 := c_6 3 (by decide)
    refine ex_iconst (pc := 98) (v := 1) dX7_isAwake_98 (by decide) ?_
    refine ex_zret dX7_isAwake_99 rfl (by first | exact Or.inl rfl | exact Or.inr rfl | exact bI_01 _) ?_
    refine qi_mk ⟨rfl, ?_⟩
    first | (simp_all [awk, bI, nI_eq, nI_0]; done) | (simp_all [awk, bI, nI_eq, nI_0]; grind) | grind [awk, bI]

/-! rows that are told, images, counts, the tape -/
theorem wt_2 {g : Gl} {ik wc v : Int32} : ob 6 ([Value.ref (g.1 + 1), .ref (g.1 + 13), .int ik, .ref (g.1 + 25), .ref (g.1 + 37), .ref (g.1 + 38), .ref (g.1 + 39), .ref (g.1 + 40), .ref (g.1 + 44), .ref (g.1 + 45), .ref (g.1 + 46), .int wc].set 2 (.int v)) = wtC g v wc := rfl
theorem wt_11 {g : Gl} {ik wc v : Int32} : ob 6 ([Value.ref (g.1 + 1), .ref (g.1 + 13), .int ik, .ref (g.1 + 25), .ref (g.1 + 37), .ref (g.1 + 38), .ref (g.1 + 39), .ref (g.1 + 40), .ref (g.1 + 44), .ref (g.1 + 45), .ref (g.1 + 46), .int wc].set 11 (.int v)) = wtC g ik v := rfl
theorem mo_3 {g : Gl} {z : Nat → Int32} {v : Int32} : ob 7 ([Value.ref (g.1 + 76), .ref (g.1 + 77), .ref (g.1 + 78), .int (z 3), .ref (g.1 + 79), .ref (g.1 + 80), .ref (g.1 + 81), .ref (g.1 + 82), .ref (g.1 + 83), .ref (g.1 + 84), .ref (g.1 + 85), .ref (g.1 + 86), .ref (g.1 + 87), .ref (g.1 + 88), .ref (g.1 + 89), .int (z 15), .int (z 16), .int (z 17), .int (z 18), .int (z 19), .int (z 20), .int (z 21), .int (z 22), .int (z 23), .int (z 24), .int (z 25), .ref (g.1 + 90), .ref (g.1 + 91), .ref (g.1 + 92), .ref (g.1 + 93), .int (z 30), .ref (g.1 + 94)].set 3 (.int v)) = moC g (upd z 3 v) := by simp [moC, upd]
theorem mo_15 {g : Gl} {z : Nat → Int32} {v : Int32} : ob 7 ([Value.ref (g.1 + 76), .ref (g.1 + 77), .ref (g.1 + 78), .int (z 3), .ref (g.1 + 79), .ref (g.1 + 80), .ref (g.1 + 81), .ref (g.1 + 82), .ref (g.1 + 83), .ref (g.1 + 84), .ref (g.1 + 85), .ref (g.1 + 86), .ref (g.1 + 87), .ref (g.1 + 88), .ref (g.1 + 89), .int (z 15), .int (z 16), .int (z 17), .int (z 18), .int (z 19), .int (z 20), .int (z 21), .int (z 22), .int (z 23), .int (z 24), .int (z 25), .ref (g.1 + 90), .ref (g.1 + 91), .ref (g.1 + 92), .ref (g.1 + 93), .int (z 30), .ref (g.1 + 94)].set 15 (.int v)) = moC g (upd z 15 v) := by simp [moC, upd]
theorem mo_16 {g : Gl} {z : Nat → Int32} {v : Int32} : ob 7 ([Value.ref (g.1 + 76), .ref (g.1 + 77), .ref (g.1 + 78), .int (z 3), .ref (g.1 + 79), .ref (g.1 + 80), .ref (g.1 + 81), .ref (g.1 + 82), .ref (g.1 + 83), .ref (g.1 + 84), .ref (g.1 + 85), .ref (g.1 + 86), .ref (g.1 + 87), .ref (g.1 + 88), .ref (g.1 + 89), .int (z 15), .int (z 16), .int (z 17), .int (z 18), .int (z 19), .int (z 20), .int (z 21), .int (z 22), .int (z 23), .int (z 24), .int (z 25), .ref (g.1 + 90), .ref (g.1 + 91), .ref (g.1 + 92), .ref (g.1 + 93), .int (z 30), .ref (g.1 + 94)].set 16 (.int v)) = moC g (upd z 16 v) := by simp [moC, upd]
theorem mo_17 {g : Gl} {z : Nat → Int32} {v : Int32} : ob 7 ([Value.ref (g.1 + 76), .ref (g.1 + 77), .ref (g.1 + 78), .int (z 3), .ref (g.1 + 79), .ref (g.1 + 80), .ref (g.1 + 81), .ref (g.1 + 82), .ref (g.1 + 83), .ref (g.1 + 84), .ref (g.1 + 85), .ref (g.1 + 86), .ref (g.1 + 87), .ref (g.1 + 88), .ref (g.1 + 89), .int (z 15), .int (z 16), .int (z 17), .int (z 18), .int (z 19), .int (z 20), .int (z 21), .int (z 22), .int (z 23), .int (z 24), .int (z 25), .ref (g.1 + 90), .ref (g.1 + 91), .ref (g.1 + 92), .ref (g.1 + 93), .int (z 30), .ref (g.1 + 94)].set 17 (.int v)) = moC g (upd z 17 v) := by simp [moC, upd]
theorem mo_18 {g : Gl} {z : Nat → Int32} {v : Int32} : ob 7 ([Value.ref (g.1 + 76), .ref (g.1 + 77), .ref (g.1 + 78), .int (z 3), .ref (g.1 + 79), .ref (g.1 + 80), .ref (g.1 + 81), .ref (g.1 + 82), .ref (g.1 + 83), .ref (g.1 + 84), .ref (g.1 + 85), .ref (g.1 + 86), .ref (g.1 + 87), .ref (g.1 + 88), .ref (g.1 + 89), .int (z 15), .int (z 16), .int (z 17), .int (z 18), .int (z 19), .int (z 20), .int (z 21), .int (z 22), .int (z 23), .int (z 24), .int (z 25), .ref (g.1 + 90), .ref (g.1 + 91), .ref (g.1 + 92), .ref (g.1 + 93), .int (z 30), .ref (g.1 + 94)].set 18 (.int v)) = moC g (upd z 18 v) := by simp [moC, upd]
theorem mo_19 {g : Gl} {z : Nat → Int32} {v : Int32} : ob 7 ([Value.ref (g.1 + 76), .ref (g.1 + 77), .ref (g.1 + 78), .int (z 3), .ref (g.1 + 79), .ref (g.1 + 80), .ref (g.1 + 81), .ref (g.1 + 82), .ref (g.1 + 83), .ref (g.1 + 84), .ref (g.1 + 85), .ref (g.1 + 86), .ref (g.1 + 87), .ref (g.1 + 88), .ref (g.1 + 89), .int (z 15), .int (z 16), .int (z 17), .int (z 18), .int (z 19), .int (z 20), .int (z 21), .int (z 22), .int (z 23), .int (z 24), .int (z 25), .ref (g.1 + 90), .ref (g.1 + 91), .ref (g.1 + 92), .ref (g.1 + 93), .int (z 30), .ref (g.1 + 94)].set 19 (.int v)) = moC g (upd z 19 v) := by simp [moC, upd]
theorem mo_20 {g : Gl} {z : Nat → Int32} {v : Int32} : ob 7 ([Value.ref (g.1 + 76), .ref (g.1 + 77), .ref (g.1 + 78), .int (z 3), .ref (g.1 + 79), .ref (g.1 + 80), .ref (g.1 + 81), .ref (g.1 + 82), .ref (g.1 + 83), .ref (g.1 + 84), .ref (g.1 + 85), .ref (g.1 + 86), .ref (g.1 + 87), .ref (g.1 + 88), .ref (g.1 + 89), .int (z 15), .int (z 16), .int (z 17), .int (z 18), .int (z 19), .int (z 20), .int (z 21), .int (z 22), .int (z 23), .int (z 24), .int (z 25), .ref (g.1 + 90), .ref (g.1 + 91), .ref (g.1 + 92), .ref (g.1 + 93), .int (z 30), .ref (g.1 + 94)].set 20 (.int v)) = moC g (upd z 20 v) := by simp [moC, upd]
theorem mo_21 {g : Gl} {z : Nat → Int32} {v : Int32} : ob 7 ([Value.ref (g.1 + 76), .ref (g.1 + 77), .ref (g.1 + 78), .int (z 3), .ref (g.1 + 79), .ref (g.1 + 80), .ref (g.1 + 81), .ref (g.1 + 82), .ref (g.1 + 83), .ref (g.1 + 84), .ref (g.1 + 85), .ref (g.1 + 86), .ref (g.1 + 87), .ref (g.1 + 88), .ref (g.1 + 89), .int (z 15), .int (z 16), .int (z 17), .int (z 18), .int (z 19), .int (z 20), .int (z 21), .int (z 22), .int (z 23), .int (z 24), .int (z 25), .ref (g.1 + 90), .ref (g.1 + 91), .ref (g.1 + 92), .ref (g.1 + 93), .int (z 30), .ref (g.1 + 94)].set 21 (.int v)) = moC g (upd z 21 v) := by simp [moC, upd]
theorem mo_22 {g : Gl} {z : Nat → Int32} {v : Int32} : ob 7 ([Value.ref (g.1 + 76), .ref (g.1 + 77), .ref (g.1 + 78), .int (z 3), .ref (g.1 + 79), .ref (g.1 + 80), .ref (g.1 + 81), .ref (g.1 + 82), .ref (g.1 + 83), .ref (g.1 + 84), .ref (g.1 + 85), .ref (g.1 + 86), .ref (g.1 + 87), .ref (g.1 + 88), .ref (g.1 + 89), .int (z 15), .int (z 16), .int (z 17), .int (z 18), .int (z 19), .int (z 20), .int (z 21), .int (z 22), .int (z 23), .int (z 24), .int (z 25), .ref (g.1 + 90), .ref (g.1 + 91), .ref (g.1 + 92), .ref (g.1 + 93), .int (z 30), .ref (g.1 + 94)].set 22 (.int v)) = moC g (upd z 22 v) := by simp [moC, upd]
theorem mo_23 {g : Gl} {z : Nat → Int32} {v : Int32} : ob 7 ([Value.ref (g.1 + 76), .ref (g.1 + 77), .ref (g.1 + 78), .int (z 3), .ref (g.1 + 79), .ref (g.1 + 80), .ref (g.1 + 81), .ref (g.1 + 82), .ref (g.1 + 83), .ref (g.1 + 84), .ref (g.1 + 85), .ref (g.1 + 86), .ref (g.1 + 87), .ref (g.1 + 88), .ref (g.1 + 89), .int (z 15), .int (z 16), .int (z 17), .int (z 18), .int (z 19), .int (z 20), .int (z 21), .int (z 22), .int (z 23), .int (z 24), .int (z 25), .ref (g.1 + 90), .ref (g.1 + 91), .ref (g.1 + 92), .ref (g.1 + 93), .int (z 30), .ref (g.1 + 94)].set 23 (.int v)) = moC g (upd z 23 v) := by simp [moC, upd]
theorem mo_24 {g : Gl} {z : Nat → Int32} {v : Int32} : ob 7 ([Value.ref (g.1 + 76), .ref (g.1 + 77), .ref (g.1 + 78), .int (z 3), .ref (g.1 + 79), .ref (g.1 + 80), .ref (g.1 + 81), .ref (g.1 + 82), .ref (g.1 + 83), .ref (g.1 + 84), .ref (g.1 + 85), .ref (g.1 + 86), .ref (g.1 + 87), .ref (g.1 + 88), .ref (g.1 + 89), .int (z 15), .int (z 16), .int (z 17), .int (z 18), .int (z 19), .int (z 20), .int (z 21), .int (z 22), .int (z 23), .int (z 24), .int (z 25), .ref (g.1 + 90), .ref (g.1 + 91), .ref (g.1 + 92), .ref (g.1 + 93), .int (z 30), .ref (g.1 + 94)].set 24 (.int v)) = moC g (upd z 24 v) := by simp [moC, upd]
theorem mo_25 {g : Gl} {z : Nat → Int32} {v : Int32} : ob 7 ([Value.ref (g.1 + 76), .ref (g.1 + 77), .ref (g.1 + 78), .int (z 3), .ref (g.1 + 79), .ref (g.1 + 80), .ref (g.1 + 81), .ref (g.1 + 82), .ref (g.1 + 83), .ref (g.1 + 84), .ref (g.1 + 85), .ref (g.1 + 86), .ref (g.1 + 87), .ref (g.1 + 88), .ref (g.1 + 89), .int (z 15), .int (z 16), .int (z 17), .int (z 18), .int (z 19), .int (z 20), .int (z 21), .int (z 22), .int (z 23), .int (z 24), .int (z 25), .ref (g.1 + 90), .ref (g.1 + 91), .ref (g.1 + 92), .ref (g.1 + 93), .int (z 30), .ref (g.1 + 94)].set 25 (.int v)) = moC g (upd z 25 v) := by simp [moC, upd]
theorem mo_30 {g : Gl} {z : Nat → Int32} {v : Int32} : ob 7 ([Value.ref (g.1 + 76), .ref (g.1 + 77), .ref (g.1 + 78), .int (z 3), .ref (g.1 + 79), .ref (g.1 + 80), .ref (g.1 + 81), .ref (g.1 + 82), .ref (g.1 + 83), .ref (g.1 + 84), .ref (g.1 + 85), .ref (g.1 + 86), .ref (g.1 + 87), .ref (g.1 + 88), .ref (g.1 + 89), .int (z 15), .int (z 16), .int (z 17), .int (z 18), .int (z 19), .int (z 20), .int (z 21), .int (z 22), .int (z 23), .int (z 24), .int (z 25), .ref (g.1 + 90), .ref (g.1 + 91), .ref (g.1 + 92), .ref (g.1 + 93), .int (z 30), .ref (g.1 + 94)].set 30 (.int v)) = moC g (upd z 30 v) := by simp [moC, upd]
/-- the class's reader -/
abbrev rdC (g : Gl) (r : Nat → Int32) : va_E := ob 1 [.ref (g.1 + 41), .int (r 1), .ref (g.1 + 42), .int (r 3), .ref (g.1 + 43), .int (r 5), .int (r 6), .int (r 7), .int (r 8), .int (r 9), .int (r 10), .int (r 11), .int (r 12)]
theorem rd_1 {g : Gl} {r : Nat → Int32} {v : Int32} : ob 1 ([Value.ref (g.1 + 41), .int (r 1), .ref (g.1 + 42), .int (r 3), .ref (g.1 + 43), .int (r 5), .int (r 6), .int (r 7), .int (r 8), .int (r 9), .int (r 10), .int (r 11), .int (r 12)].set 1 (.int v)) = rdC g (upd r 1 v) := by simp [rdC, upd]
theorem rd_3 {g : Gl} {r : Nat → Int32} {v : Int32} : ob 1 ([Value.ref (g.1 + 41), .int (r 1), .ref (g.1 + 42), .int (r 3), .ref (g.1 + 43), .int (r 5), .int (r 6), .int (r 7), .int (r 8), .int (r 9), .int (r 10), .int (r 11), .int (r 12)].set 3 (.int v)) = rdC g (upd r 3 v) := by simp [rdC, upd]
theorem rd_5 {g : Gl} {r : Nat → Int32} {v : Int32} : ob 1 ([Value.ref (g.1 + 41), .int (r 1), .ref (g.1 + 42), .int (r 3), .ref (g.1 + 43), .int (r 5), .int (r 6), .int (r 7), .int (r 8), .int (r 9), .int (r 10), .int (r 11), .int (r 12)].set 5 (.int v)) = rdC g (upd r 5 v) := by simp [rdC, upd]
theorem rd_6 {g : Gl} {r : Nat → Int32} {v : Int32} : ob 1 ([Value.ref (g.1 + 41), .int (r 1), .ref (g.1 + 42), .int (r 3), .ref (g.1 + 43), .int (r 5), .int (r 6), .int (r 7), .int (r 8), .int (r 9), .int (r 10), .int (r 11), .int (r 12)].set 6 (.int v)) = rdC g (upd r 6 v) := by simp [rdC, upd]
theorem rd_7 {g : Gl} {r : Nat → Int32} {v : Int32} : ob 1 ([Value.ref (g.1 + 41), .int (r 1), .ref (g.1 + 42), .int (r 3), .ref (g.1 + 43), .int (r 5), .int (r 6), .int (r 7), .int (r 8), .int (r 9), .int (r 10), .int (r 11), .int (r 12)].set 7 (.int v)) = rdC g (upd r 7 v) := by simp [rdC, upd]
theorem rd_8 {g : Gl} {r : Nat → Int32} {v : Int32} : ob 1 ([Value.ref (g.1 + 41), .int (r 1), .ref (g.1 + 42), .int (r 3), .ref (g.1 + 43), .int (r 5), .int (r 6), .int (r 7), .int (r 8), .int (r 9), .int (r 10), .int (r 11), .int (r 12)].set 8 (.int v)) = rdC g (upd r 8 v) := by simp [rdC, upd]
theorem rd_9 {g : Gl} {r : Nat → Int32} {v : Int32} : ob 1 ([Value.ref (g.1 + 41), .int (r 1), .ref (g.1 + 42), .int (r 3), .ref (g.1 + 43), .int (r 5), .int (r 6), .int (r 7), .int (r 8), .int (r 9), .int (r 10), .int (r 11), .int (r 12)].set 9 (.int v)) = rdC g (upd r 9 v) := by simp [rdC, upd]
theorem rd_10 {g : Gl} {r : Nat → Int32} {v : Int32} : ob 1 ([Value.ref (g.1 + 41), .int (r 1), .ref (g.1 + 42), .int (r 3), .ref (g.1 + 43), .int (r 5), .int (r 6), .int (r 7), .int (r 8), .int (r 9), .int (r 10), .int (r 11), .int (r 12)].set 10 (.int v)) = rdC g (upd r 10 v) := by simp [rdC, upd]
theorem rd_11 {g : Gl} {r : Nat → Int32} {v : Int32} : ob 1 ([Value.ref (g.1 + 41), .int (r 1), .ref (g.1 + 42), .int (r 3), .ref (g.1 + 43), .int (r 5), .int (r 6), .int (r 7), .int (r 8), .int (r 9), .int (r 10), .int (r 11), .int (r 12)].set 11 (.int v)) = rdC g (upd r 11 v) := by simp [rdC, upd]
theorem rd_12 {g : Gl} {r : Nat → Int32} {v : Int32} : ob 1 ([Value.ref (g.1 + 41), .int (r 1), .ref (g.1 + 42), .int (r 3), .ref (g.1 + 43), .int (r 5), .int (r 6), .int (r 7), .int (r 8), .int (r 9), .int (r 10), .int (r 11), .int (r 12)].set 12 (.int v)) = rdC g (upd r 12 v) := by simp [rdC, upd]
theorem Ms.z {g : Gl} {h : AH} {z s : Nat → Int32} (hM : Ms g h z s) (z' : Nat → Int32) : Ms g (h.set 75 (moC g z')) z' s := ⟨gs_eq hM.1, gs_ne (by decide) hM.2⟩
theorem mr_z {g : Gl} {h : AH} {z s : Nat → Int32} {n nt : Nat} (hR : MR g h z s n nt) (z' : Nat → Int32) : MR g (h.set 75 (moC g z')) z' s n nt := hR.re (S := mX) (FrX.st (Or.inl rfl) (nscr (by omega))) (hR.1.z z')
def aTell (c : Nat) : Int32 := if c < 60 then nI (c + 1) else -1000000003
def nTell (wf : Nat → Int32) (c : Nat) (v : Int32) : (Nat → Int32) × Nat := if c < 60 then (upd wf c v, c + 1) else (wf, c)
def w046 (k : Nat) : Prop := k = 0 ∨ k = 46
def m7593 (k : Nat) : Prop := k = 75 ∨ k = 93
set_option maxHeartbeats 4000000 in
set_option maxRecDepth 100000 in
theorem c_W_tell {g : Gl} {d ks : Nat} {h : AH} {ik : Int32} {c : Nat} {wf : Nat → Int32} (hW : h[0]? = some (wtC g ik (nI c))) (h46 : h[46]? = some (ia g 60 wf)) (hc60 : c ≤ 60) (v : Int32) : Ex g mX6_tell d 0 ks 0 [some (.ref (g.1 + 0)), some (.int v)] [] h (qi (fun h' r => (h'[0]? = some (wtC g ik (nI (nTell wf c v).2)) ∧ h'[46]? = some (ia g 60 (nTell wf c v).1) ∧ FrX w046 g h h') ∧ r = aTell c)) := by
  refine ex_aload_n (pc := 0) dX6_tell_0 rfl ?_
  refine ex_get (pc := 1) dX6_tell_1 fl_X6_63 hW rfl ?_
  refine ex_bipush (pc := 4) (v := (nI 60)) dX6_tell_4 (by decide) ?_
  refine ex_icmp_lt (pc := 6) (tgt := 12) dX6_tell_6 (by decide) (fun c_6 => ?_) (fun c_6 => ?_)
  · skip
    have hc : c < 60 := (nI_ltI (by omega) (by omega)).mp c_6
    refine ex_aload_n (pc := 12) dX6_tell_12 rfl ?_
    refine ex_get (pc := 13) dX6_tell_13 fl_X6_60 hW rfl ?_
    refine ex_aload_n (pc := 16) dX6_tell_16 rfl ?_
    refine ex_get (pc := 17) dX6_tell_17 fl_X6_63 hW rfl ?_
    refine ex_iload_n (pc := 20) dX6_tell_20 rfl ?_
    refine ex_istn (k := c) (pc := 21) dX6_tell_21 h46 rfl hc (by decide) ?_
    refine ex_aload_n (pc := 22) dX6_tell_22 rfl ?_
    refine ex_dup (pc := 23) dX6_tell_23 rfl ?_
    refine ex_get (pc := 24) dX6_tell_24 fl_X6_63 (gs_ne (by decide) hW) rfl ?_
    refine ex_iconst (pc := 27) (v := (nI 1)) dX6_tell_27 (by decide) ?_
    refine ex_iadd (pc := 28) dX6_tell_28 ?_
    refine ex_put (pc := 29) dX6_tell_29 fp_X6_63 (gs_ne (by decide) hW) (Nat.le_of_ble_eq_true rfl) rfl rfl ?_
    rw [wt_11, nI_add]
    refine ex_aload_n (pc := 32) dX6_tell_32 rfl ?_
    refine ex_get (pc := 33) dX6_tell_33 fl_X6_63 (gs_eq (gs_ne (by decide) hW)) rfl ?_
    refine ex_ret dX6_tell_36 rfl ?_
    have e1 : nTell wf c v = (upd wf c v, c + 1) := by unfold nTell; rw [if_pos hc]
    rw [e1]
    refine qi_mk ⟨⟨gs_eq (gs_ne (by decide) hW), gs_ne (by decide) (gs_eq h46), FrX.tr (FrX.st (Or.inr rfl) (nscr (by omega))) (FrX.st (Or.inl rfl) (nscr (by omega)))⟩, ?_⟩
    unfold aTell; rw [if_pos hc]
  · skip
    have hc : ¬ c < 60 := fun z => c_6 (nI_lt z (by omega))
    refine ex_ldc (pc := 9) dX6_tell_9 cn_X6_82 ?_
    refine ex_ret dX6_tell_11 rfl ?_
    have e1 : nTell wf c v = (wf, c) := by unfold nTell; rw [if_neg hc]
    rw [e1]
    refine qi_mk ⟨⟨hW, h46, FrX.rf⟩, ?_⟩
    unfold aTell; rw [if_neg hc]
set_option maxHeartbeats 4000000 in
set_option maxRecDepth 100000 in
theorem c_M_tell {g : Gl} {d ks : Nat} {h : AH} {z s : Nat → Int32} {n nt : Nat} (hR : MR g h z s n nt) {c : Nat} {wf : Nat → Int32} (hz : z 30 = nI c) (h93 : h[93]? = some (ia g 60 wf)) (hc60 : c ≤ 60) (v : Int32) : Ex g mX7_tell d 0 ks 0 [some (.ref (g.1 + 75)), some (.int v)] [] h (qi (fun h' r => (MR g h' (upd z 30 (nI (nTell wf c v).2)) s n nt ∧ h'[93]? = some (ia g 60 (nTell wf c v).1) ∧ FrX m7593 g h h') ∧ r = aTell c)) := by
  refine ex_aload_n (pc := 0) dX7_tell_0 rfl ?_
  refine ex_get (pc := 1) dX7_tell_1 fl_X7_387 hR.1.1 rfl ?_
  rw [hz]
  refine ex_bipush (pc := 4) (v := (nI 60)) dX7_tell_4 (by decide) ?_
  refine ex_icmp_ne (pc := 6) (tgt := 12) dX7_tell_6 (by decide) (fun c_6 => ?_) (fun c_6 => ?_)
  · skip
    have hc : c < 60 := by
      have q : ¬ c = 60 := fun z => c_6 (by rw [z])
      omega
    refine ex_aload_n (pc := 12) dX7_tell_12 rfl ?_
    refine ex_get (pc := 13) dX7_tell_13 fl_X7_62 hR.1.1 rfl ?_
    refine ex_aload_n (pc := 16) dX7_tell_16 rfl ?_
    refine ex_get (pc := 17) dX7_tell_17 fl_X7_387 hR.1.1 rfl ?_
    rw [hz]
    refine ex_iload_n (pc := 20) dX7_tell_20 rfl ?_
    refine ex_istn (k := c) (pc := 21) dX7_tell_21 h93 rfl hc (by decide) ?_
    refine ex_aload_n (pc := 22) dX7_tell_22 rfl ?_
    refine ex_dup (pc := 23) dX7_tell_23 rfl ?_
    refine ex_get (pc := 24) dX7_tell_24 fl_X7_387 (gs_ne (by decide) hR.1.1) rfl ?_
    rw [hz]
    refine ex_iconst (pc := 27) (v := (nI 1)) dX7_tell_27 (by decide) ?_
    refine ex_iadd (pc := 28) dX7_tell_28 ?_
    refine ex_put (pc := 29) dX7_tell_29 fp_X7_387 (gs_ne (by decide) hR.1.1) (Nat.le_of_ble_eq_true rfl) rfl rfl ?_
    rw [mo_30, nI_add]
    refine ex_aload_n (pc := 32) dX7_tell_32 rfl ?_
    refine ex_get (pc := 33) dX7_tell_33 fl_X7_387 (gs_eq (gs_ne (by decide) hR.1.1)) rfl ?_
    refine ex_ret dX7_tell_36 rfl ?_
    have e1 : nTell wf c v = (upd wf c v, c + 1) := by unfold nTell; rw [if_pos hc]
    rw [e1]
    refine qi_mk ⟨⟨mr_z (hR.fr (S := fun k => k = 93) (FrX.st rfl (by unfold scr; omega)) (by decide) (by decide)) _, gs_ne (by decide) (gs_eq h93), FrX.tr (FrX.st (Or.inr rfl) (by unfold scr; omega)) (FrX.st (Or.inl rfl) (nscr (by omega)))⟩, ?_⟩
    unfold aTell; rw [if_pos hc]
    exact upd_eq
  · skip
    have hc : ¬ c < 60 := by
      have q := (nI_eq (by omega) (by omega)).mp c_6
      omega
    refine ex_ldc (pc := 9) dX7_tell_9 cn_X7_166 ?_
    refine ex_ret dX7_tell_11 rfl ?_
    have e1 : nTell wf c v = (wf, c) := by unfold nTell; rw [if_neg hc]
    rw [e1]
    have ez : upd z 30 (nI c) = z := by rw [← hz]; exact upd_self _ _
    refine qi_mk ⟨⟨by dsimp only; rw [ez]; exact hR, h93, FrX.rf⟩, ?_⟩
    unfold aTell; rw [if_neg hc]
def aCount (s : Nat → Int32) (wc tl : Int32) (w : Int32) : Int32 := if w = nI 0 then s 0 else if w = nI 1 then s 2 else if w = nI 2 then s 3 else if w = nI 3 then s 4 else if w = nI 4 then s 1 else if w = nI 5 then wc else if w = nI 6 then tl else if w = nI 7 then s 9 else -1000000001
set_option maxHeartbeats 4000000 in
set_option maxRecDepth 100000 in
theorem c_W_count {g : Gl} {d ks : Nat} {h : AH} {ik wc : Int32} {s : Nat → Int32} {n nt : Nat} (hW : h[0]? = some (wtC g ik wc)) (hC : CR g h 1 s n nt) {rr : Nat → Int32} (h40 : h[40]? = some (rdC g rr)) (w : Int32) : Ex g mX6_count d 0 ks 0 [some (.ref (g.1 + 0)), some (.int w)] [] h (qi (fun h' r => h' = h ∧ r = aCount s wc (rr 1) w)) := by
  have hR := hC.1
  have hP := hC.2.1
  have hn8 := hP.2.1
  have hN := hR.2.1
  obtain ⟨fp, hfp, hfp2⟩ := hR.2.2.2.1
  refine ex_iload_n (pc := 0) dX6_count_0 rfl ?_
  refine ex_tsw (pc := 1) (n := 8) (l0 := 0) (tg := fun j => [48, 56, 64, 72, 80, 88, 93, 101].getD j 0) (td := 109) dX6_count_1 rfl rfl (by decide +kernel) (by decide) (by decide) (fun j_1 hj_1 c_1 => ?_) (fun c_1 => ?_)
  · rcases (show j_1 = 0 ∨ j_1 = 1 ∨ j_1 = 2 ∨ j_1 = 3 ∨ j_1 = 4 ∨ j_1 = 5 ∨ j_1 = 6 ∨ j_1 = 7 by omega) with rfl | rfl | rfl | rfl | rfl | rfl | rfl | rfl
    · show Ex _ _ _ _ _ 48 _ _ _ _
      have c_1 : _ = nI 0 := c_1
      refine ex_aload_n (pc := 48) dX6_count_48 rfl ?_
      refine ex_get (pc := 49) dX6_count_49 fl_X6_10 hW rfl ?_
      refine ex_get (pc := 52) dX6_count_52 fl_X6_79 hR.1 rfl ?_
      refine ex_ret dX6_count_55 rfl ?_
      refine qi_mk ⟨rfl, ?_⟩
      subst c_1
      simp only [aCount, Bool.and_self, Bool.and_true, Bool.true_and, Bool.and_false, Bool.false_and, Bool.or_true, Bool.true_or, Bool.or_false, Bool.false_or, Bool.not_true, Bool.not_false, Bool.false_eq_true, ↓reduceIte]
    · show Ex _ _ _ _ _ 56 _ _ _ _
      have c_1 : _ = nI 1 := c_1
      refine ex_aload_n (pc := 56) dX6_count_56 rfl ?_
      refine ex_get (pc := 57) dX6_count_57 fl_X6_10 hW rfl ?_
      refine ex_get (pc := 60) dX6_count_60 fl_X6_106 hR.1 rfl ?_
      refine ex_ret dX6_count_63 rfl ?_
      refine qi_mk ⟨rfl, ?_⟩
      subst c_1
      simp only [aCount, show ¬ nI 1 = nI 0 by decide, Bool.and_self, Bool.and_true, Bool.true_and, Bool.and_false, Bool.false_and, Bool.or_true, Bool.true_or, Bool.or_false, Bool.false_or, Bool.not_true, Bool.not_false, Bool.false_eq_true, ↓reduceIte]
    · show Ex _ _ _ _ _ 64 _ _ _ _
      have c_1 : _ = nI 2 := c_1
      refine ex_aload_n (pc := 64) dX6_count_64 rfl ?_
      refine ex_get (pc := 65) dX6_count_65 fl_X6_10 hW rfl ?_
      refine ex_get (pc := 68) dX6_count_68 fl_X6_159 hR.1 rfl ?_
      refine ex_ret dX6_count_71 rfl ?_
      refine qi_mk ⟨rfl, ?_⟩
      subst c_1
      simp only [aCount, show ¬ nI 2 = nI 0 by decide, show ¬ nI 2 = nI 1 by decide, Bool.and_self, Bool.and_true, Bool.true_and, Bool.and_false, Bool.false_and, Bool.or_true, Bool.true_or, Bool.or_false, Bool.false_or, Bool.not_true, Bool.not_false, Bool.false_eq_true, ↓reduceIte]
    · show Ex _ _ _ _ _ 72 _ _ _ _
      have c_1 : _ = nI 3 := c_1
      refine ex_aload_n (pc := 72) dX6_count_72 rfl ?_
      refine ex_get (pc := 73) dX6_count_73 fl_X6_10 hW rfl ?_
      refine ex_get (pc := 76) dX6_count_76 fl_X6_162 hR.1 rfl ?_
      refine ex_ret dX6_count_79 rfl ?_
      refine qi_mk ⟨rfl, ?_⟩
      subst c_1
      simp only [aCount, show ¬ nI 3 = nI 0 by decide, show ¬ nI 3 = nI 1 by decide, show ¬ nI 3 = nI 2 by decide, Bool.and_self, Bool.and_true, Bool.true_and, Bool.and_false, Bool.false_and, Bool.or_true, Bool.true_or, Bool.or_false, Bool.false_or, Bool.not_true, Bool.not_false, Bool.false_eq_true, ↓reduceIte]
    · show Ex _ _ _ _ _ 80 _ _ _ _
      have c_1 : _ = nI 4 := c_1
      refine ex_aload_n (pc := 80) dX6_count_80 rfl ?_
      refine ex_get (pc := 81) dX6_count_81 fl_X6_10 hW rfl ?_
      refine ex_get (pc := 84) dX6_count_84 fl_X6_257 hR.1 rfl ?_
      refine ex_ret dX6_count_87 rfl ?_
      refine qi_mk ⟨rfl, ?_⟩
      subst c_1
      simp only [aCount, show ¬ nI 4 = nI 0 by decide, show ¬ nI 4 = nI 1 by decide, show ¬ nI 4 = nI 2 by decide, show ¬ nI 4 = nI 3 by decide, Bool.and_self, Bool.and_true, Bool.true_and, Bool.and_false, Bool.false_and, Bool.or_true, Bool.true_or, Bool.or_false, Bool.false_or, Bool.not_true, Bool.not_false, Bool.false_eq_true, ↓reduceIte]
    · show Ex _ _ _ _ _ 88 _ _ _ _
      have c_1 : _ = nI 5 := c_1
      refine ex_aload_n (pc := 88) dX6_count_88 rfl ?_
      refine ex_get (pc := 89) dX6_count_89 fl_X6_63 hW rfl ?_
      refine ex_ret dX6_count_92 rfl ?_
      refine qi_mk ⟨rfl, ?_⟩
      subst c_1
      simp only [aCount, show ¬ nI 5 = nI 0 by decide, show ¬ nI 5 = nI 1 by decide, show ¬ nI 5 = nI 2 by decide, show ¬ nI 5 = nI 3 by decide, show ¬ nI 5 = nI 4 by decide, Bool.and_self, Bool.and_true, Bool.true_and, Bool.and_false, Bool.false_and, Bool.or_true, Bool.true_or, Bool.or_false, Bool.false_or, Bool.not_true, Bool.not_false, Bool.false_eq_true, ↓reduceIte]
    · show Ex _ _ _ _ _ 93 _ _ _ _
      have c_1 : _ = nI 6 := c_1
      refine ex_aload_n (pc := 93) dX6_count_93 rfl ?_
      refine ex_get (pc := 94) dX6_count_94 fl_X6_44 hW rfl ?_
      refine ex_get (pc := 97) dX6_count_97 fl_X6_248 h40 rfl ?_
      refine ex_ret dX6_count_100 rfl ?_
      refine qi_mk ⟨rfl, ?_⟩
      subst c_1
      simp only [aCount, show ¬ nI 6 = nI 0 by decide, show ¬ nI 6 = nI 1 by decide, show ¬ nI 6 = nI 2 by decide, show ¬ nI 6 = nI 3 by decide, show ¬ nI 6 = nI 4 by decide, show ¬ nI 6 = nI 5 by decide, Bool.and_self, Bool.and_true, Bool.true_and, Bool.and_false, Bool.false_and, Bool.or_true, Bool.true_or, Bool.or_false, Bool.false_or, Bool.not_true, Bool.not_false, Bool.false_eq_true, ↓reduceIte]
    · show Ex _ _ _ _ _ 101 _ _ _ _
      have c_1 : _ = nI 7 := c_1
      refine ex_aload_n (pc := 101) dX6_count_101 rfl ?_
      refine ex_get (pc := 102) dX6_count_102 fl_X6_10 hW rfl ?_
      refine ex_get (pc := 105) dX6_count_105 fl_X6_175 hR.1 rfl ?_
      refine ex_ret dX6_count_108 rfl ?_
      refine qi_mk ⟨rfl, ?_⟩
      subst c_1
      simp only [aCount, show ¬ nI 7 = nI 0 by decide, show ¬ nI 7 = nI 1 by decide, show ¬ nI 7 = nI 2 by decide, show ¬ nI 7 = nI 3 by decide, show ¬ nI 7 = nI 4 by decide, show ¬ nI 7 = nI 5 by decide, show ¬ nI 7 = nI 6 by decide, Bool.and_self, Bool.and_true, Bool.true_and, Bool.and_false, Bool.false_and, Bool.or_true, Bool.true_or, Bool.or_false, Bool.false_or, Bool.not_true, Bool.not_false, Bool.false_eq_true, ↓reduceIte]
  · skip
    have c_1_0 : ¬ _ = nI 0 := c_1 0 (by decide)
    have c_1_1 : ¬ _ = nI 1 := c_1 1 (by decide)
    have c_1_2 : ¬ _ = nI 2 := c_1 2 (by decide)
    have c_1_3 : ¬ _ = nI 3 := c_1 3 (by decide)
    have c_1_4 : ¬ _ = nI 4 := c_1 4 (by decide)
    have c_1_5 : ¬ _ = nI 5 := c_1 5 (by decide)
    have c_1_6 : ¬ _ = nI 6 := c_1 6 (by decide)
    have c_1_7 : ¬ _ = nI 7 := c_1 7 (by decide)
    refine ex_ldc (pc := 109) dX6_count_109 cn_X6_73 ?_
    refine ex_ret dX6_count_111 rfl ?_
    refine qi_mk ⟨rfl, ?_⟩
    simp only [aCount, c_1_0, c_1_1, c_1_2, c_1_3, c_1_4, c_1_5, c_1_6, c_1_7, Bool.and_self, Bool.and_true, Bool.true_and, Bool.and_false, Bool.false_and, Bool.or_true, Bool.true_or, Bool.or_false, Bool.false_or, Bool.not_true, Bool.not_false, Bool.false_eq_true, ↓reduceIte]
set_option maxHeartbeats 4000000 in
set_option maxRecDepth 100000 in
theorem c_M_count {g : Gl} {d ks : Nat} {h : AH} {z s : Nat → Int32} {n nt : Nat} (hR : MR g h z s n nt) (w : Int32) : Ex g mX7_count d 0 ks 0 [some (.ref (g.1 + 75)), some (.int w)] [] h (qi (fun h' r => h' = h ∧ r = aCount s (z 30) (z 15) w)) := by
  have hM := hR.1
  have hP := hR.2.1
  have hn8 := hP.2.1
  have hN := hP.1
  refine ex_iload_n (pc := 0) dX7_count_0 rfl ?_
  refine ex_tsw (pc := 1) (n := 8) (l0 := 0) (tg := fun j => [48, 55, 62, 69, 76, 83, 88, 93].getD j 0) (td := 101) dX7_count_1 rfl rfl (by decide +kernel) (by decide) (by decide) (fun j_1 hj_1 c_1 => ?_) (fun c_1 => ?_)
  · rcases (show j_1 = 0 ∨ j_1 = 1 ∨ j_1 = 2 ∨ j_1 = 3 ∨ j_1 = 4 ∨ j_1 = 5 ∨ j_1 = 6 ∨ j_1 = 7 by omega) with rfl | rfl | rfl | rfl | rfl | rfl | rfl | rfl
    · show Ex _ _ _ _ _ 48 _ _ _ _
      have c_1 : _ = nI 0 := c_1
      refine ex_aload_n (pc := 48) dX7_count_48 rfl ?_
      refine ex_get (pc := 49) dX7_count_49 fl_X7_7 hM.1 rfl ?_
      refine ex_iconst (pc := 52) (v := (nI 0)) dX7_count_52 (by decide) ?_
      refine ex_ildn (k := 0) (pc := 53) dX7_count_53 hM.2 rfl (by decide) (by decide) ?_
      refine ex_ret dX7_count_54 rfl ?_
      refine qi_mk ⟨rfl, ?_⟩
      subst c_1
      simp only [aCount, Bool.and_self, Bool.and_true, Bool.true_and, Bool.and_false, Bool.false_and, Bool.or_true, Bool.true_or, Bool.or_false, Bool.false_or, Bool.not_true, Bool.not_false, Bool.false_eq_true, ↓reduceIte]
    · show Ex _ _ _ _ _ 55 _ _ _ _
      have c_1 : _ = nI 1 := c_1
      refine ex_aload_n (pc := 55) dX7_count_55 rfl ?_
      refine ex_get (pc := 56) dX7_count_56 fl_X7_7 hM.1 rfl ?_
      refine ex_iconst (pc := 59) (v := (nI 2)) dX7_count_59 (by decide) ?_
      refine ex_ildn (k := 2) (pc := 60) dX7_count_60 hM.2 rfl (by decide) (by decide) ?_
      refine ex_ret dX7_count_61 rfl ?_
      refine qi_mk ⟨rfl, ?_⟩
      subst c_1
      simp only [aCount, show ¬ nI 1 = nI 0 by decide, Bool.and_self, Bool.and_true, Bool.true_and, Bool.and_false, Bool.false_and, Bool.or_true, Bool.true_or, Bool.or_false, Bool.false_or, Bool.not_true, Bool.not_false, Bool.false_eq_true, ↓reduceIte]
    · show Ex _ _ _ _ _ 62 _ _ _ _
      have c_1 : _ = nI 2 := c_1
      refine ex_aload_n (pc := 62) dX7_count_62 rfl ?_
      refine ex_get (pc := 63) dX7_count_63 fl_X7_7 hM.1 rfl ?_
      refine ex_iconst (pc := 66) (v := (nI 3)) dX7_count_66 (by decide) ?_
      refine ex_ildn (k := 3) (pc := 67) dX7_count_67 hM.2 rfl (by decide) (by decide) ?_
      refine ex_ret dX7_count_68 rfl ?_
      refine qi_mk ⟨rfl, ?_⟩
      subst c_1
      simp only [aCount, show ¬ nI 2 = nI 0 by decide, show ¬ nI 2 = nI 1 by decide, Bool.and_self, Bool.and_true, Bool.true_and, Bool.and_false, Bool.false_and, Bool.or_true, Bool.true_or, Bool.or_false, Bool.false_or, Bool.not_true, Bool.not_false, Bool.false_eq_true, ↓reduceIte]
    · show Ex _ _ _ _ _ 69 _ _ _ _
      have c_1 : _ = nI 3 := c_1
      refine ex_aload_n (pc := 69) dX7_count_69 rfl ?_
      refine ex_get (pc := 70) dX7_count_70 fl_X7_7 hM.1 rfl ?_
      refine ex_iconst (pc := 73) (v := (nI 4)) dX7_count_73 (by decide) ?_
      refine ex_ildn (k := 4) (pc := 74) dX7_count_74 hM.2 rfl (by decide) (by decide) ?_
      refine ex_ret dX7_count_75 rfl ?_
      refine qi_mk ⟨rfl, ?_⟩
      subst c_1
      simp only [aCount, show ¬ nI 3 = nI 0 by decide, show ¬ nI 3 = nI 1 by decide, show ¬ nI 3 = nI 2 by decide, Bool.and_self, Bool.and_true, Bool.true_and, Bool.and_false, Bool.false_and, Bool.or_true, Bool.true_or, Bool.or_false, Bool.false_or, Bool.not_true, Bool.not_false, Bool.false_eq_true, ↓reduceIte]
    · show Ex _ _ _ _ _ 76 _ _ _ _
      have c_1 : _ = nI 4 := c_1
      refine ex_aload_n (pc := 76) dX7_count_76 rfl ?_
      refine ex_get (pc := 77) dX7_count_77 fl_X7_7 hM.1 rfl ?_
      refine ex_iconst (pc := 80) (v := (nI 1)) dX7_count_80 (by decide) ?_
      refine ex_ildn (k := 1) (pc := 81) dX7_count_81 hM.2 rfl (by decide) (by decide) ?_
      refine ex_ret dX7_count_82 rfl ?_
      refine qi_mk ⟨rfl, ?_⟩
      subst c_1
      simp only [aCount, show ¬ nI 4 = nI 0 by decide, show ¬ nI 4 = nI 1 by decide, show ¬ nI 4 = nI 2 by decide, show ¬ nI 4 = nI 3 by decide, Bool.and_self, Bool.and_true, Bool.true_and, Bool.and_false, Bool.false_and, Bool.or_true, Bool.true_or, Bool.or_false, Bool.false_or, Bool.not_true, Bool.not_false, Bool.false_eq_true, ↓reduceIte]
    · show Ex _ _ _ _ _ 83 _ _ _ _
      have c_1 : _ = nI 5 := c_1
      refine ex_aload_n (pc := 83) dX7_count_83 rfl ?_
      refine ex_get (pc := 84) dX7_count_84 fl_X7_387 hM.1 rfl ?_
      refine ex_ret dX7_count_87 rfl ?_
      refine qi_mk ⟨rfl, ?_⟩
      subst c_1
      simp only [aCount, show ¬ nI 5 = nI 0 by decide, show ¬ nI 5 = nI 1 by decide, show ¬ nI 5 = nI 2 by decide, show ¬ nI 5 = nI 3 by decide, show ¬ nI 5 = nI 4 by decide, Bool.and_self, Bool.and_true, Bool.true_and, Bool.and_false, Bool.false_and, Bool.or_true, Bool.true_or, Bool.or_false, Bool.false_or, Bool.not_true, Bool.not_false, Bool.false_eq_true, ↓reduceIte]
    · show Ex _ _ _ _ _ 88 _ _ _ _
      have c_1 : _ = nI 6 := c_1
      refine ex_aload_n (pc := 88) dX7_count_88 rfl ?_
      refine ex_get (pc := 89) dX7_count_89 fl_X7_268 hM.1 rfl ?_
      refine ex_ret dX7_count_92 rfl ?_
      refine qi_mk ⟨rfl, ?_⟩
      subst c_1
      simp only [aCount, show ¬ nI 6 = nI 0 by decide, show ¬ nI 6 = nI 1 by decide, show ¬ nI 6 = nI 2 by decide, show ¬ nI 6 = nI 3 by decide, show ¬ nI 6 = nI 4 by decide, show ¬ nI 6 = nI 5 by decide, Bool.and_self, Bool.and_true, Bool.true_and, Bool.and_false, Bool.false_and, Bool.or_true, Bool.true_or, Bool.or_false, Bool.false_or, Bool.not_true, Bool.not_false, Bool.false_eq_true, ↓reduceIte]
    · show Ex _ _ _ _ _ 93 _ _ _ _
      have c_1 : _ = nI 7 := c_1
      refine ex_aload_n (pc := 93) dX7_count_93 rfl ?_
      refine ex_get (pc := 94) dX7_count_94 fl_X7_7 hM.1 rfl ?_
      refine ex_bipush (pc := 97) (v := (nI 9)) dX7_count_97 (by decide) ?_
      refine ex_ildn (k := 9) (pc := 99) dX7_count_99 hM.2 rfl (by decide) (by decide) ?_
      refine ex_ret dX7_count_100 rfl ?_
      refine qi_mk ⟨rfl, ?_⟩
      subst c_1
      simp only [aCount, show ¬ nI 7 = nI 0 by decide, show ¬ nI 7 = nI 1 by decide, show ¬ nI 7 = nI 2 by decide, show ¬ nI 7 = nI 3 by decide, show ¬ nI 7 = nI 4 by decide, show ¬ nI 7 = nI 5 by decide, show ¬ nI 7 = nI 6 by decide, Bool.and_self, Bool.and_true, Bool.true_and, Bool.and_false, Bool.false_and, Bool.or_true, Bool.true_or, Bool.or_false, Bool.false_or, Bool.not_true, Bool.not_false, Bool.false_eq_true, ↓reduceIte]
  · skip
    have c_1_0 : ¬ _ = nI 0 := c_1 0 (by decide)
    have c_1_1 : ¬ _ = nI 1 := c_1 1 (by decide)
    have c_1_2 : ¬ _ = nI 2 := c_1 2 (by decide)
    have c_1_3 : ¬ _ = nI 3 := c_1 3 (by decide)
    have c_1_4 : ¬ _ = nI 4 := c_1 4 (by decide)
    have c_1_5 : ¬ _ = nI 5 := c_1 5 (by decide)
    have c_1_6 : ¬ _ = nI 6 := c_1 6 (by decide)
    have c_1_7 : ¬ _ = nI 7 := c_1 7 (by decide)
    refine ex_ldc (pc := 101) dX7_count_101 cn_X7_161 ?_
    refine ex_ret dX7_count_103 rfl ?_
    refine qi_mk ⟨rfl, ?_⟩
    simp only [aCount, c_1_0, c_1_1, c_1_2, c_1_3, c_1_4, c_1_5, c_1_6, c_1_7, Bool.and_self, Bool.and_true, Bool.true_and, Bool.and_false, Bool.false_and, Bool.or_true, Bool.true_or, Bool.or_false, Bool.false_or, Bool.not_true, Bool.not_false, Bool.false_eq_true, ↓reduceIte]
set_option maxHeartbeats 4000000 in
set_option maxRecDepth 100000 in
theorem c_M_setAside_l {g : Gl} {d ks : Nat} {h : AH} {q0 q1 : Nat} (hq : ¬ q0 = q1) (hq1 : q1 < 90) {f0 f1 : Nat → Int32} : ∀ (m k : Nat) (h1 : AH), h1[q0]? = some (ia g 3090 f0) → h1[q1]? = some (ia g 3090 (bkF f0 f1 k)) → FrX (fun x => x = q1) g h h1 → k + m = 2890 → Ex g mX7_setAside d 0 ks 2 [some (.ref (g.1 + 75)), some (.ref (g.1 + q0)), some (.ref (g.1 + q1)), some (.int (nI (k)))] [] h1 (qv (fun h' => h'[q1]? = some (ia g 3090 (bkF f0 f1 2890)) ∧ FrX (fun x => x = q1) g h h')) := by
  intro m
  induction m with
  | zero =>
    intro k h1 e0 e1 hF hk
    refine ex_iload_n (pc := 2) dX7_setAside_2 rfl ?_
    refine ex_sipush (pc := 3) (v := (nI 2890)) dX7_setAside_3 (by decide) ?_
    refine bx_icmp_ge_t (pc := 6) (tgt := 21) dX7_setAside_6 (by decide) (by rw [show k = 2890 by omega]; exact Int32.le_refl _) ?_
    refine ex_vret dX7_setAside_21 rfl ?_
    obtain rfl : k = 2890 := by omega
    exact qv_mk ⟨e1, hF⟩
  | succ m ih =>
    intro k h1 e0 e1 hF hk
    refine ex_iload_n (pc := 2) dX7_setAside_2 rfl ?_
    refine ex_sipush (pc := 3) (v := (nI 2890)) dX7_setAside_3 (by decide) ?_
    refine bx_icmp_ge_f (pc := 6) (tgt := 21) dX7_setAside_6 (by decide) (nI_ge (by omega) (by omega)) ?_
    refine ex_aload_n (pc := 9) dX7_setAside_9 rfl ?_
    refine ex_iload_n (pc := 10) dX7_setAside_10 rfl ?_
    refine ex_aload_n (pc := 11) dX7_setAside_11 rfl ?_
    refine ex_iload_n (pc := 12) dX7_setAside_12 rfl ?_
    refine ex_ildn (k := k) (pc := 13) dX7_setAside_13 e0 rfl (by omega) (by decide) ?_
    refine ex_istn (k := k) (pc := 14) dX7_setAside_14 e1 rfl (by omega) (by decide) ?_
    first | refine sx_inc (pc := 15) dX7_setAside_15 rfl rfl (by decide) ?_ | refine sx_iinc (pc := 15) dX7_setAside_15 rfl rfl (by decide) ?_
    show Ex _ _ _ _ _ _ [_, _, _, _] _ _ _
    refine ex_goto (pc := 18) (tgt := 2) dX7_setAside_18 (by decide) ?_
    rw [bk_up]
    exact ih (k + 1) _ (gs_ne (fun z => hq z.symm) e0) (gs_eq e1) (hF.tr (FrX.st rfl (nscr (by omega)))) (by omega)
set_option maxHeartbeats 4000000 in
set_option maxRecDepth 100000 in
theorem c_M_setAside {g : Gl} {d ks : Nat} {h : AH} {q0 q1 : Nat} (hq : ¬ q0 = q1) (hq1 : q1 < 90) {f0 f1 : Nat → Int32} (e0 : h[q0]? = some (ia g 3090 f0)) (e1 : h[q1]? = some (ia g 3090 f1)) : Ex g mX7_setAside d 0 ks 0 [some (.ref (g.1 + 75)), some (.ref (g.1 + q0)), some (.ref (g.1 + q1)), none] [] h (qv (fun h' => h'[q1]? = some (ia g 3090 (bkF f0 f1 2890)) ∧ FrX (fun x => x = q1) g h h')) := by
  refine ex_iconst (pc := 0) (v := (nI 0)) dX7_setAside_0 (by decide) ?_
  refine sx_istore_n (pc := 1) dX7_setAside_1 rfl (by decide) ?_
  show Ex _ _ _ _ _ _ [_, _, _, _] _ _ _
  exact c_M_setAside_l hq hq1 2890 0 h e0 (by rw [bk_0]; exact e1) FrX.rf (by omega)
def agr (s s' : Nat → Int32) : Prop := ∀ k, k < 2890 → s' k = s k
theorem bk_agr (f0 f1 : Nat → Int32) : agr f0 (bkF f0 f1 2890) := fun k hk => if_pos hk
theorem txtOK.ag {s s' : Nat → Int32} (d : agr s s') {t ky L lv : Nat} (ht : t < 14) (h : txtOK s t ky L lv) : txtOK s' t ky L lv := by
  obtain ⟨h1, h2, h3, h4, h5, h6⟩ := h
  have hL := h6.2.2.1
  have e : ∀ k, k < 2890 → s' k = s k := d
  refine ⟨(e _ (by omega)).trans h1, h2, (e _ (by omega)).trans h3, (e _ (by omega)).trans h4, fun k hk => ?_, ?_⟩
  · have q1 : whS s' t k = whS s t k := e _ (by omega)
    have q2 : vS s' t k = vS s t k := e _ (by omega)
    rw [q1, q2]; exact h5 k hk
  · refine wfO_tag (fun k hk => ?_) h6
    have q1 : whS s' t k = whS s t k := e _ (by omega)
    have q2 : vS s' t k = vS s t k := e _ (by omega)
    unfold opM
    rw [q1, q2]
theorem TO.ag {s s' : Nat → Int32} (d : agr s s') {nt : Nat} (h : TO s nt) : TO s' nt := by
  have := h.2.1
  refine ⟨(d 1 (by omega)).trans h.1, h.2.1, fun t ht => ?_⟩
  obtain ⟨ky, L, lv, q⟩ := h.2.2 t ht
  exact ⟨ky, L, lv, q.ag d (by omega)⟩
theorem lst_c {f f' : Nat → Int32} {key : Int32} : ∀ {n : Nat}, (∀ t, t < n → f t = f' t) → lstF f key n = lstF f' key n := by
  intro n
  induction n with
  | zero => intro _; rfl
  | succ n ih => intro h; rw [lstF, lstF, h n (by omega), ih (fun t ht => h t (by omega))]
theorem POk.ag {s s' : Nat → Int32} (d : agr s s') {n : Nat} (h : POk s n) : POk s' n := by
  have hn := h.2.1
  refine ⟨(d 0 (by omega)).trans h.1, h.2.1, fun i hi => ?_⟩
  rw [d _ (by omega), d _ (by omega), d _ (by omega)]
  exact h.2.2 i hi
theorem wll_ag {s s' : Nat → Int32} (d : agr s s') : setL (wll s') 48 = setL (wll s) 48 := setL_congr (fun i hi => by unfold wll; rw [d _ (by omega)])
theorem RoomB.ag {g : Gl} {h : AH} {b n : Nat} {s s' : Nat → Int32} (d : agr s s') (a : RoomB g h b s n) : RoomB g h b s' n := by
  obtain ⟨a1, a2, a3, a4, a5, a6⟩ := a
  refine ⟨?_, (d 0 (by omega)).trans a2, a3, a4, fun i hi => ?_, a6⟩
  · rw [wll_ag d, rmC_eq (s := s) (s' := s') (fun k hk => d k (by omega))]; exact a1
  · have e := a5 i hi
    unfold pS at e ⊢
    rw [d _ (by omega), d _ (by omega), d _ (by omega), d _ (by omega)]
    exact e
theorem CR.ag {g : Gl} {h : AH} {b n nt : Nat} {s s' : Nat → Int32} (d : agr s s') (a : CR g h b s n nt) : CR g h b s' n nt := by
  obtain ⟨a1, a2, a3, ⟨ft, fl, tx, a4, a5, a6, a7⟩, a8⟩ := a
  have hnt := a3.2.1
  refine ⟨a1.ag d, a2.ag d, a3.ag d, ⟨ft, fl, tx, a4, a5, fun t ht => ?_, fun key hk => ?_⟩, a8⟩
  · obtain ⟨e, ky, L, lv, k1, f, fs, t1, t2, t3, t4⟩ := a6 t ht
    have hL := k1.2.2.2.2.2.2.2.1
    refine ⟨e, ky, L, lv, k1.ag d (by omega), f, fs, t1, t2, t3, fun k hk => ?_⟩
    have q1 : whS s' t k = whS s t k := d _ (by omega)
    have q2 : vS s' t k = vS s t k := d _ (by omega)
    rw [q1, q2]; exact t4 k hk
  · rw [a7 key hk]
    have : cntS s' nt (nI key) = cntS s nt (nI key) := lst_c (fun t ht => d _ (by omega))
    rw [this]

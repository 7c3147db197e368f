/-! the reference's small steps through a text -/
def TkM (tb : Nat → Nat) (tl ky : Nat) (z : Nat → Int32) (ts : List Tkn) : Prop := ∃ b, tkZ tb tl b z ∧ b ≤ tl ∧ (match ts with
  | [] => b = tl
  | t :: r => b < tl ∧ t.1 = b ∧ t.2.1 = enT tb tl b ∧ tkI tb tl ky b t.2.2 ∧ TkL tb tl ky (enT tb tl b) r)
theorem TkM_nx {tb : Nat → Nat} {tl ky p : Nat} {z : Nat → Int32} {ts : List Tkn} (hp : p ≤ tl) (h : tkZ tb tl (bgT tb tl p) z) (hl : TkL tb tl ky p ts) : TkM tb tl ky z ts := by
  refine ⟨bgT tb tl p, h, (bg_rng hp).2, ?_⟩
  cases ts with
  | nil => exact hl
  | cons t r => exact hl
def sgB (ts : List Tkn) (c : Nat) : Bool := match ts with
  | [] => false
  | t :: _ => decide (t.2.2.1 = 2 ∧ t.2.2.2 = c)
/-- what the word at hand shows -/
def tkS (tb : Nat → Nat) (tl ky : Nat) (z : Nat → Int32) (t : Tkn) : Prop := (t.2.2.1 = 0 ∧ z 18 = nI 2 ∧ z 19 = nI t.2.2.2 ∧ t.2.2.2 ≤ 9999) ∨ (t.2.2.1 = 1 ∧ z 18 = nI 1 ∧ z 20 = nI t.2.2.2 ∧ isNm ky t.2.2.2 = true ∧ t.2.2.2 < 256) ∨ (t.2.2.1 = 2 ∧ z 18 = nI 3 ∧ z 20 = nI t.2.2.2 ∧ t.2.2.2 < 256) ∨ (t.2.2.1 = 3 ∧ (z 18 = nI 4 ∨ (z 18 = nI 1 ∧ ∃ c, z 20 = nI c ∧ c < 256 ∧ (c = 0 ∨ isNm ky c = false))))
theorem TkM_s {tf : Nat → Int32} {tb : Nat → Nat} {tl ky : Nat} {z : Nat → Int32} {t : Tkn} {r : List Tkn} (hB : TpOk tf tb) (h : TkM tb tl ky z (t :: r)) : tkS tb tl ky z t ∧ z 16 = nI t.1 ∧ z 17 = nI t.2.1 ∧ t.1 < t.2.1 ∧ t.2.1 ≤ tl ∧ TkL tb tl ky t.2.1 r ∧ (t.2.2.1 < 3 → ((0 < t.2.1 ∧ (z 18 = nI 1 ∨ z 18 = nI 2)) ↔ (0 < t.2.1 ∧ ¬ srt tb tl (t.2.1 - 1) = 0))) := by
  obtain ⟨b, ⟨z16, -, hz⟩, hbl, hb, e1, e2, hk, hr⟩ := h
  obtain ⟨z17, s0, s1, s2⟩ := hz hb
  have he := en_rng (tb := tb) hb
  have hlast := en_last (tb := tb) hb
  have d1 : ¬ nI 3 = nI 1 ∧ ¬ nI 3 = nI 2 := by decide
  refine ⟨?_, by rw [e1]; exact z16, by rw [e2]; exact z17, by omega, by omega, by rw [e2]; exact hr, fun h3 => ?_⟩
  · unfold tkS
    rcases hk with ⟨k, q⟩ | ⟨k, g1, g2, g3, q⟩ | ⟨k, g1, q⟩ | ⟨k, g1, g2, q⟩ | ⟨k, g1, q⟩
    · obtain ⟨a, c⟩ := s0 k
      rw [q]
      exact Or.inr (Or.inr (Or.inl ⟨rfl, a, c, (hB b).2⟩))
    · obtain ⟨⟨-, a⟩, c, -⟩ := s1 k
      rw [q]
      exact Or.inr (Or.inl ⟨rfl, a g1, c g2, g3, (hB b).2⟩)
    · obtain ⟨⟨a1, a2⟩, c1, c2⟩ := s1 k
      rw [q]
      refine Or.inr (Or.inr (Or.inr ⟨rfl, ?_⟩))
      by_cases hg : glT tb tl b
      · exact Or.inl (a1 hg)
      · refine Or.inr ⟨a2 hg, ?_⟩
        by_cases hE : enT tb tl b = b + 1
        · exact ⟨tb b, c1 hE, (hB b).2, Or.inr ((g1.resolve_left hg).resolve_left (fun z => z hE))⟩
        · exact ⟨0, c2 hE, by decide, Or.inl rfl⟩
    · obtain ⟨-, a⟩ := s2 k
      obtain ⟨a1, a2⟩ := a ⟨g1, g2⟩
      rw [q]
      refine Or.inl ⟨rfl, a1, a2, ?_⟩
      have hrr := rnE_rng (tb := tb) (tl := tl) (s := srt tb tl b) (tl - (b + 1)) (b + 1)
      have hd : ∀ i, i < enT tb tl b - b → tb (b + i) ≤ 57 := by
        intro i hi
        have hs : srt tb tl (b + i) = 2 := by
          by_cases i0 : i = 0
          · rw [i0]; exact k
          · rw [← k]
            refine hrr.2.2 (b + i) (by omega) ?_
            have : enT tb tl b = rnE tb tl (srt tb tl b) (tl - (b + 1)) (b + 1) := if_neg (by omega)
            omega
        exact (srt_2.mp hs).2.2
      have hv := nvl_lt (tb := tb) (b := b) _ hd
      have : 10 ^ (enT tb tl b - b) ≤ 10 ^ 4 := Nat.pow_le_pow_right (by decide) g2
      show nvl tb b (enT tb tl b - b) ≤ 9999
      omega
    · obtain ⟨a, -⟩ := s2 k
      rw [q]
      exact Or.inr (Or.inr (Or.inr ⟨rfl, Or.inl (a g1)⟩))
  · rw [e2, hlast]
    have h0 : 0 < enT tb tl b := by omega
    rcases hk with ⟨k, q⟩ | ⟨k, g1, g2, g3, q⟩ | ⟨k, g1, q⟩ | ⟨k, g1, g2, q⟩ | ⟨k, g1, q⟩
    · obtain ⟨a, c⟩ := s0 k
      rw [a, k]
      exact ⟨fun z => z.2.elim (fun y => absurd y d1.1) (fun y => absurd y d1.2), fun z => absurd rfl z.2⟩
    · obtain ⟨⟨-, a⟩, c, -⟩ := s1 k
      rw [a g1, k]
      exact ⟨fun _ => ⟨h0, by decide⟩, fun _ => ⟨h0, Or.inl rfl⟩⟩
    · rw [q] at h3; exact absurd h3 (by decide)
    · obtain ⟨-, a⟩ := s2 k
      rw [(a ⟨g1, g2⟩).1, k]
      exact ⟨fun _ => ⟨h0, by decide⟩, fun _ => ⟨h0, Or.inr rfl⟩⟩
    · rw [q] at h3; exact absurd h3 (by decide)
theorem c_M_nx {g : Gl} {d ks : Nat} {h : AH} {z s tf : Nat → Int32} {tb : Nat → Nat} {tl ky : Nat} {t : Tkn} {r : List Tkn} (hT : TpM g h z s tf tl) (hB : TpOk tf tb) (hk : TkM tb tl ky z (t :: r)) (h3 : t.2.2.1 < 3) (hd : 2 ≤ d) : Ex g mX7_nextToken d 0 ks 0 [some (.ref (g.1 + 75)), none, none] [] h (qv (fun h' => ∃ z', TpM g h' z' s tf tl ∧ zK z z' ∧ TkM tb tl ky z' r ∧ FrX c75 g h h')) := by
  obtain ⟨-, -, h17, -, hp, hl, hn⟩ := TkM_s hB hk
  refine (c_M_nextToken hT hB hp h17 (hn h3) hd).mono (fun h' r' a => ?_)
  obtain ⟨e, z', a1, a2, a3, a4⟩ := a
  exact ⟨e, z', a1, a2, TkM_nx hp a3 hl, a4⟩
theorem TkM_0 {tb : Nat → Nat} {tl ky : Nat} {z : Nat → Int32} (h : TkM tb tl ky z []) : z 18 = nI 0 ∧ z 16 = nI tl := by
  obtain ⟨b, ⟨a1, a2, -⟩, -, e⟩ := h
  have e' : b = tl := e
  subst e'
  exact ⟨a2 rfl, a1⟩
theorem sg_18 {tf : Nat → Int32} {tb : Nat → Nat} {tl ky : Nat} {z : Nat → Int32} {ts : List Tkn} (hB : TpOk tf tb) (h : TkM tb tl ky z ts) {c : Nat} (hc : c < 256) : (z 18 = nI 3 ∧ z 20 = nI c) ↔ sgB ts c = true := by
  cases ts with
  | nil =>
    have := (TkM_0 h).1
    rw [this]
    exact ⟨fun z => absurd z.1 (by decide), fun z => by cases z⟩
  | cons t r =>
    have hs := (TkM_s hB h).1
    unfold sgB
    rw [decide_eq_true_iff]
    rcases hs with ⟨k, a, -⟩ | ⟨k, a, -⟩ | ⟨k, a, b, hv⟩ | ⟨k, a⟩
    · rw [k, a]; exact ⟨fun z => absurd z.1 (by decide), fun z => absurd z.1 (by decide)⟩
    · rw [k, a]; exact ⟨fun z => absurd z.1 (by decide), fun z => absurd z.1 (by decide)⟩
    · rw [k, a, b]; exact ⟨fun z => ⟨rfl, (nI_eq (by omega) (by omega)).mp z.2⟩, fun z => ⟨rfl, by rw [z.2]⟩⟩
    · rw [k]
      refine ⟨fun z => ?_, fun z => absurd z.1 (by decide)⟩
      rcases a with a | ⟨a, -⟩
      · rw [a] at z; exact absurd z.1 (by decide)
      · rw [a] at z; exact absurd z.1 (by decide)
set_option maxHeartbeats 4000000 in
set_option maxRecDepth 100000 in
theorem c_M_isSign {g : Gl} {d ks : Nat} {h : AH} {z s tf : Nat → Int32} {tb : Nat → Nat} {tl ky : Nat} {ts : List Tkn} (hT : TpM g h z s tf tl) (hB : TpOk tf tb) (hk : TkM tb tl ky z ts) {c : Nat} (hc : c < 256) : Ex g mX7_isSign d 0 ks 0 [some (.ref (g.1 + 75)), some (.int (nI c))] [] h (qi (fun h' r => h' = h ∧ r = bI (sgB ts c = true))) := by
  refine ex_aload_n (pc := 0) dX7_isSign_0 rfl ?_
  refine ex_get (pc := 1) dX7_isSign_1 fl_X7_283 hT.1.1 rfl ?_
  refine ex_iconst (pc := 4) (v := (nI 3)) dX7_isSign_4 (by decide) ?_
  refine ex_icmp_ne (pc := 5) (tgt := 20) dX7_isSign_5 (by decide) (fun c_5 => ?_) (fun c_5 => ?_)
  · skip
    refine ex_iconst (pc := 20) (v := 0) dX7_isSign_20 (by decide) ?_
    refine ex_zret dX7_isSign_21 rfl (by first | exact Or.inl rfl | exact Or.inr rfl | exact bI_01 _) ?_
    refine qi_mk ⟨rfl, ?_⟩
    exact (bI_f (fun q => c_5 ((sg_18 hB hk hc).mpr q).1)).symm
  · skip
    refine ex_aload_n (pc := 8) dX7_isSign_8 rfl ?_
    refine ex_get (pc := 9) dX7_isSign_9 fl_X7_292 hT.1.1 rfl ?_
    refine ex_iload_n (pc := 12) dX7_isSign_12 rfl ?_
    refine ex_icmp_ne (pc := 13) (tgt := 20) dX7_isSign_13 (by decide) (fun c_13 => ?_) (fun c_13 => ?_)
    · skip
      refine ex_iconst (pc := 20) (v := 0) dX7_isSign_20 (by decide) ?_
      refine ex_zret dX7_isSign_21 rfl (by first | exact Or.inl rfl | exact Or.inr rfl | exact bI_01 _) ?_
      refine qi_mk ⟨rfl, ?_⟩
      exact (bI_f (fun q => c_13 ((sg_18 hB hk hc).mpr q).2)).symm
    · skip
      refine ex_iconst (pc := 16) (v := 1) dX7_isSign_16 (by decide) ?_
      refine ex_goto (pc := 17) (tgt := 21) dX7_isSign_17 (by decide) ?_
      refine ex_zret dX7_isSign_21 rfl (by first | exact Or.inl rfl | exact Or.inr rfl | exact bI_01 _) ?_
      refine qi_mk ⟨rfl, ?_⟩
      exact (bI_t ((sg_18 hB hk hc).mp ⟨c_5, c_13⟩)).symm
set_option maxHeartbeats 4000000 in
set_option maxRecDepth 100000 in
theorem c_M_isName {g : Gl} {d ks : Nat} {h : AH} {ky : Nat} (hk : ky < 3) {c : Nat} (hc : c < 256) : Ex g mX7_isName d 0 ks 0 [some (.int (nI ky)), some (.int (nI c))] [] h (qi (fun h' r => h' = h ∧ r = bI (isNm ky c = true))) := by
  have nq : ∀ a, a < 256 → ((nI c = nI a) ↔ c = a) := fun a ha => nI_eq (by omega) (by omega)
  have kq : ∀ a, a < 256 → ((nI ky = nI a) ↔ ky = a) := fun a ha => nI_eq (by omega) (by omega)
  refine ex_iload_n (pc := 0) dX7_isName_0 rfl ?_
  refine ex_lsw (pc := 1) (ks0 := [0, 1]) (tg := fun j => [28, 52].getD j 0) (td := 70) dX7_isName_1 (by decide +kernel) (by decide +kernel) (by decide) (fun j_1 hj_1 c_1 => ?_) (fun c_1 => ?_)
  · rcases (show j_1 = 0 ∨ j_1 = 1 by simp only [List.length_cons, List.length_nil] at hj_1; omega) with rfl | rfl
    · show Ex _ _ _ _ _ 28 _ _ _ _
      have c_1 : _ = nI 0 := c_1
      refine ex_iload_n (pc := 28) dX7_isName_28 rfl ?_
      refine ex_bipush (pc := 29) (v := (nI 116)) dX7_isName_29 (by decide) ?_
      refine ex_icmp_eq (pc := 31) (tgt := 46) dX7_isName_31 (by decide) (fun c_31 => ?_) (fun c_31 => ?_)
      · skip
        refine ex_iconst (pc := 46) (v := 1) dX7_isName_46 (by decide) ?_
        refine ex_goto (pc := 47) (tgt := 51) dX7_isName_47 (by decide) ?_
        refine ex_zret dX7_isName_51 rfl (by first | exact Or.inl rfl | exact Or.inr rfl | exact bI_01 _) ?_
        refine qi_mk ⟨rfl, ?_⟩
        simp only [nq 116 (by decide), nq 115 (by decide), nq 104 (by decide), nq 99 (by decide), nq 117 (by decide), kq 0 (by decide), kq 1 (by decide)] at *
        unfold isNm
        first
        | (subst c_1; simp_all [bI]; done)
        | (rw [if_neg (by assumption), if_neg (by assumption)]; simp_all [bI]; done)
      · skip
        refine ex_iload_n (pc := 34) dX7_isName_34 rfl ?_
        refine ex_bipush (pc := 35) (v := (nI 115)) dX7_isName_35 (by decide) ?_
        refine ex_icmp_eq (pc := 37) (tgt := 46) dX7_isName_37 (by decide) (fun c_37 => ?_) (fun c_37 => ?_)
        · skip
          refine ex_iconst (pc := 46) (v := 1) dX7_isName_46 (by decide) ?_
          refine ex_goto (pc := 47) (tgt := 51) dX7_isName_47 (by decide) ?_
          refine ex_zret dX7_isName_51 rfl (by first | exact Or.inl rfl | exact Or.inr rfl | exact bI_01 _) ?_
          refine qi_mk ⟨rfl, ?_⟩
          simp only [nq 116 (by decide), nq 115 (by decide), nq 104 (by decide), nq 99 (by decide), nq 117 (by decide), kq 0 (by decide), kq 1 (by decide)] at *
          unfold isNm
          first
          | (subst c_1; simp_all [bI]; done)
          | (rw [if_neg (by assumption), if_neg (by assumption)]; simp_all [bI]; done)
        · skip
          refine ex_iload_n (pc := 40) dX7_isName_40 rfl ?_
          refine ex_bipush (pc := 41) (v := (nI 104)) dX7_isName_41 (by decide) ?_
          refine ex_icmp_ne (pc := 43) (tgt := 50) dX7_isName_43 (by decide) (fun c_43 => ?_) (fun c_43 => ?_)
          · skip
            refine ex_iconst (pc := 50) (v := 0) dX7_isName_50 (by decide) ?_
            refine ex_zret dX7_isName_51 rfl (by first | exact Or.inl rfl | exact Or.inr rfl | exact bI_01 _) ?_
            refine qi_mk ⟨rfl, ?_⟩
            simp only [nq 116 (by decide), nq 115 (by decide), nq 104 (by decide), nq 99 (by decide), nq 117 (by decide), kq 0 (by decide), kq 1 (by decide)] at *
            unfold isNm
            first
            | (subst c_1; simp_all [bI]; done)
            | (rw [if_neg (by assumption), if_neg (by assumption)]; simp_all [bI]; done)
          · skip
            refine ex_iconst (pc := 46) (v := 1) dX7_isName_46 (by decide) ?_
            refine ex_goto (pc := 47) (tgt := 51) dX7_isName_47 (by decide) ?_
            refine ex_zret dX7_isName_51 rfl (by first | exact Or.inl rfl | exact Or.inr rfl | exact bI_01 _) ?_
            refine qi_mk ⟨rfl, ?_⟩
            simp only [nq 116 (by decide), nq 115 (by decide), nq 104 (by decide), nq 99 (by decide), nq 117 (by decide), kq 0 (by decide), kq 1 (by decide)] at *
            unfold isNm
            first
            | (subst c_1; simp_all [bI]; done)
            | (rw [if_neg (by assumption), if_neg (by assumption)]; simp_all [bI]; done)
    · show Ex _ _ _ _ _ 52 _ _ _ _
      have c_1 : _ = nI 1 := c_1
      refine ex_iload_n (pc := 52) dX7_isName_52 rfl ?_
      refine ex_bipush (pc := 53) (v := (nI 99)) dX7_isName_53 (by decide) ?_
      refine ex_icmp_eq (pc := 55) (tgt := 64) dX7_isName_55 (by decide) (fun c_55 => ?_) (fun c_55 => ?_)
      · skip
        refine ex_iconst (pc := 64) (v := 1) dX7_isName_64 (by decide) ?_
        refine ex_goto (pc := 65) (tgt := 69) dX7_isName_65 (by decide) ?_
        refine ex_zret dX7_isName_69 rfl (by first | exact Or.inl rfl | exact Or.inr rfl | exact bI_01 _) ?_
        refine qi_mk ⟨rfl, ?_⟩
        simp only [nq 116 (by decide), nq 115 (by decide), nq 104 (by decide), nq 99 (by decide), nq 117 (by decide), kq 0 (by decide), kq 1 (by decide)] at *
        unfold isNm
        first
        | (subst c_1; simp_all [bI]; done)
        | (rw [if_neg (by assumption), if_neg (by assumption)]; simp_all [bI]; done)
      · skip
        refine ex_iload_n (pc := 58) dX7_isName_58 rfl ?_
        refine ex_bipush (pc := 59) (v := (nI 117)) dX7_isName_59 (by decide) ?_
        refine ex_icmp_ne (pc := 61) (tgt := 68) dX7_isName_61 (by decide) (fun c_61 => ?_) (fun c_61 => ?_)
        · skip
          refine ex_iconst (pc := 68) (v := 0) dX7_isName_68 (by decide) ?_
          refine ex_zret dX7_isName_69 rfl (by first | exact Or.inl rfl | exact Or.inr rfl | exact bI_01 _) ?_
          refine qi_mk ⟨rfl, ?_⟩
          simp only [nq 116 (by decide), nq 115 (by decide), nq 104 (by decide), nq 99 (by decide), nq 117 (by decide), kq 0 (by decide), kq 1 (by decide)] at *
          unfold isNm
          first
          | (subst c_1; simp_all [bI]; done)
          | (rw [if_neg (by assumption), if_neg (by assumption)]; simp_all [bI]; done)
        · skip
          refine ex_iconst (pc := 64) (v := 1) dX7_isName_64 (by decide) ?_
          refine ex_goto (pc := 65) (tgt := 69) dX7_isName_65 (by decide) ?_
          refine ex_zret dX7_isName_69 rfl (by first | exact Or.inl rfl | exact Or.inr rfl | exact bI_01 _) ?_
          refine qi_mk ⟨rfl, ?_⟩
          simp only [nq 116 (by decide), nq 115 (by decide), nq 104 (by decide), nq 99 (by decide), nq 117 (by decide), kq 0 (by decide), kq 1 (by decide)] at *
          unfold isNm
          first
          | (subst c_1; simp_all [bI]; done)
          | (rw [if_neg (by assumption), if_neg (by assumption)]; simp_all [bI]; done)
  · skip
    have c_1_0 : ¬ _ = nI 0 := c_1 0 (by decide)
    have c_1_1 : ¬ _ = nI 1 := c_1 1 (by decide)
    refine ex_iload_n (pc := 70) dX7_isName_70 rfl ?_
    refine ex_bipush (pc := 71) (v := (nI 116)) dX7_isName_71 (by decide) ?_
    refine ex_icmp_eq (pc := 73) (tgt := 82) dX7_isName_73 (by decide) (fun c_73 => ?_) (fun c_73 => ?_)
    · skip
      refine ex_iconst (pc := 82) (v := 1) dX7_isName_82 (by decide) ?_
      refine ex_goto (pc := 83) (tgt := 87) dX7_isName_83 (by decide) ?_
      refine ex_zret dX7_isName_87 rfl (by first | exact Or.inl rfl | exact Or.inr rfl | exact bI_01 _) ?_
      refine qi_mk ⟨rfl, ?_⟩
      simp only [nq 116 (by decide), nq 115 (by decide), nq 104 (by decide), nq 99 (by decide), nq 117 (by decide), kq 0 (by decide), kq 1 (by decide)] at *
      unfold isNm
      first
      | (subst c_1; simp_all [bI]; done)
      | (rw [if_neg (by assumption), if_neg (by assumption)]; simp_all [bI]; done)
    · skip
      refine ex_iload_n (pc := 76) dX7_isName_76 rfl ?_
      refine ex_bipush (pc := 77) (v := (nI 99)) dX7_isName_77 (by decide) ?_
      refine ex_icmp_ne (pc := 79) (tgt := 86) dX7_isName_79 (by decide) (fun c_79 => ?_) (fun c_79 => ?_)
      · skip
        refine ex_iconst (pc := 86) (v := 0) dX7_isName_86 (by decide) ?_
        refine ex_zret dX7_isName_87 rfl (by first | exact Or.inl rfl | exact Or.inr rfl | exact bI_01 _) ?_
        refine qi_mk ⟨rfl, ?_⟩
        simp only [nq 116 (by decide), nq 115 (by decide), nq 104 (by decide), nq 99 (by decide), nq 117 (by decide), kq 0 (by decide), kq 1 (by decide)] at *
        unfold isNm
        first
        | (subst c_1; simp_all [bI]; done)
        | (rw [if_neg (by assumption), if_neg (by assumption)]; simp_all [bI]; done)
      · skip
        refine ex_iconst (pc := 82) (v := 1) dX7_isName_82 (by decide) ?_
        refine ex_goto (pc := 83) (tgt := 87) dX7_isName_83 (by decide) ?_
        refine ex_zret dX7_isName_87 rfl (by first | exact Or.inl rfl | exact Or.inr rfl | exact bI_01 _) ?_
        refine qi_mk ⟨rfl, ?_⟩
        simp only [nq 116 (by decide), nq 115 (by decide), nq 104 (by decide), nq 99 (by decide), nq 117 (by decide), kq 0 (by decide), kq 1 (by decide)] at *
        unfold isNm
        first
        | (subst c_1; simp_all [bI]; done)
        | (rw [if_neg (by assumption), if_neg (by assumption)]; simp_all [bI]; done)
def wrA (s : Nat → Int32) (la : Nat) (A : List Stq) : Nat → Int32 := fun k => if la ≤ k ∧ k < la + 2 * A.length then (if (k - la) % 2 = 0 then nI (A.getD ((k - la) / 2) (0, 0)).1 else nI (A.getD ((k - la) / 2) (0, 0)).2) else s k
theorem wrA_nil (s : Nat → Int32) (la : Nat) : wrA s la [] = s := by
  funext k
  unfold wrA
  rw [if_neg (by simp only [List.length_nil]; omega)]
theorem getD_l {A : List Stq} {x : Stq} {i : Nat} (h : i < A.length) : (A ++ [x]).getD i (0, 0) = A.getD i (0, 0) := by
  simp [List.getD_eq_getElem?_getD, List.getElem?_append_left h]
theorem getD_e {A : List Stq} {x : Stq} : (A ++ [x]).getD A.length (0, 0) = x := by
  simp [List.getD_eq_getElem?_getD]
theorem wrA_app (s : Nat → Int32) (la : Nat) (A : List Stq) (w v : Nat) : upd (upd (wrA s la A) (la + 2 * A.length) (nI w)) (la + 2 * A.length + 1) (nI v) = wrA s la (A ++ [(w, v)]) := by
  funext k
  unfold wrA
  have hl : (A ++ [(w, v)]).length = A.length + 1 := by simp
  rw [hl]
  by_cases e1 : k = la + 2 * A.length + 1
  · subst e1
    rw [upd_eq, if_pos (by omega), if_neg (by omega), show (la + 2 * A.length + 1 - la) / 2 = A.length by omega, getD_e]
  · rw [upd_ne e1]
    by_cases e2 : k = la + 2 * A.length
    · subst e2
      rw [upd_eq, if_pos (by omega), if_pos (by omega), show (la + 2 * A.length - la) / 2 = A.length by omega, getD_e]
    · rw [upd_ne e2]
      by_cases e3 : la ≤ k ∧ k < la + 2 * A.length
      · rw [if_pos e3, if_pos (show la ≤ k ∧ k < la + 2 * (A.length + 1) by omega), getD_l (by omega)]
      · rw [if_neg e3, if_neg (by omega)]
def lvs : List Stq → Nat
  | [] => 0
  | x :: r => (if x.1 < 2 then 1 else 0) + lvs r
theorem lvs_app (A B : List Stq) : lvs (A ++ B) = lvs A + lvs B := by
  induction A with
  | nil => simp [lvs]
  | cons x A ih => simp only [List.cons_append, lvs, ih]; omega
def PS (g : Gl) (h : AH) (z s tf : Nat → Int32) (tl la : Nat) (A : List Stq) : Prop := TpM g h z (wrA s la A) tf tl ∧ z 23 = nI A.length ∧ z 24 = nI la ∧ z 25 = nI (lvs A)
def c7576 (k : Nat) : Prop := k = 75 ∨ k = 76
set_option maxHeartbeats 4000000 in
set_option maxRecDepth 100000 in
theorem c_M_step {g : Gl} {d ks : Nat} {h : AH} {z s tf : Nat → Int32} {tl la : Nat} {A : List Stq} (hP : PS g h z s tf tl la A) (hla : la + 2 * A.length + 2 ≤ 3090) (w v : Nat) : Ex g mX7_step d 0 ks 0 [some (.ref (g.1 + 75)), some (.int (nI w)), some (.int (nI v))] [] h (qv (fun h' => TpM g h' (upd z 23 (nI (A.length + 1))) (wrA s la (A ++ [(w, v)])) tf tl ∧ FrX c7576 g h h')) := by
  obtain ⟨hT, z23, z24, z25⟩ := hP
  refine ex_aload_n (pc := 0) dX7_step_0 rfl ?_
  refine ex_get (pc := 1) dX7_step_1 fl_X7_7 hT.1.1 rfl ?_
  refine ex_aload_n (pc := 4) dX7_step_4 rfl ?_
  refine ex_get (pc := 5) dX7_step_5 fl_X7_308 hT.1.1 rfl ?_
  rw [z24]
  refine ex_iconst (pc := 8) (v := (nI 2)) dX7_step_8 (by decide) ?_
  refine ex_aload_n (pc := 9) dX7_step_9 rfl ?_
  refine ex_get (pc := 10) dX7_step_10 fl_X7_311 hT.1.1 rfl ?_
  rw [z23]
  refine ex_imul (pc := 13) dX7_step_13 ?_
  rw [nI_mul]
  refine ex_iadd (pc := 14) dX7_step_14 ?_
  rw [nI_add]
  refine ex_iload_n (pc := 15) dX7_step_15 rfl ?_
  refine ex_istn (k := la + 2 * A.length) (pc := 16) dX7_step_16 hT.1.2 rfl (by omega) (by decide) ?_
  refine ex_aload_n (pc := 17) dX7_step_17 rfl ?_
  refine ex_get (pc := 18) dX7_step_18 fl_X7_7 (gs_ne (by decide) hT.1.1) rfl ?_
  refine ex_aload_n (pc := 21) dX7_step_21 rfl ?_
  refine ex_get (pc := 22) dX7_step_22 fl_X7_308 (gs_ne (by decide) hT.1.1) rfl ?_
  rw [z24]
  refine ex_iconst (pc := 25) (v := (nI 2)) dX7_step_25 (by decide) ?_
  refine ex_aload_n (pc := 26) dX7_step_26 rfl ?_
  refine ex_get (pc := 27) dX7_step_27 fl_X7_311 (gs_ne (by decide) hT.1.1) rfl ?_
  rw [z23]
  refine ex_imul (pc := 30) dX7_step_30 ?_
  rw [nI_mul]
  refine ex_iadd (pc := 31) dX7_step_31 ?_
  rw [nI_add]
  refine ex_iconst (pc := 32) (v := (nI 1)) dX7_step_32 (by decide) ?_
  refine ex_iadd (pc := 33) dX7_step_33 ?_
  rw [nI_add]
  refine ex_iload_n (pc := 34) dX7_step_34 rfl ?_
  refine ex_istn (k := la + 2 * A.length + 1) (pc := 35) dX7_step_35 (gs_eq hT.1.2) rfl (by omega) (by decide) ?_
  rw [wrA_app]
  refine ex_aload_n (pc := 36) dX7_step_36 rfl ?_
  refine ex_dup (pc := 37) dX7_step_37 rfl ?_
  refine ex_get (pc := 38) dX7_step_38 fl_X7_311 (gs_ne (by decide) (gs_ne (by decide) hT.1.1)) rfl ?_
  rw [z23]
  refine ex_iconst (pc := 41) (v := (nI 1)) dX7_step_41 (by decide) ?_
  refine ex_iadd (pc := 42) dX7_step_42 ?_
  refine ex_put (pc := 43) dX7_step_43 fp_X7_311 (gs_ne (by decide) (gs_ne (by decide) hT.1.1)) (Nat.le_of_ble_eq_true rfl) rfl rfl ?_
  rw [mo_23, nI_add]
  refine ex_vret dX7_step_46 rfl ?_
  refine qv_mk ⟨⟨⟨gs_eq (gs_ne (by decide) (gs_ne (by decide) hT.1.1)), gs_ne (by decide) (gs_eq (gs_eq hT.1.2))⟩, gs_ne (by decide) (gs_ne (by decide) (gs_ne (by decide) hT.2.1)), (upd_ne (by decide)).trans hT.2.2.1, hT.2.2.2⟩, FrX.tr (FrX.tr (FrX.st (Or.inr rfl) (nscr (by omega))) (FrX.st (Or.inr rfl) (nscr (by omega)))) (FrX.st (Or.inl rfl) (nscr (by omega)))⟩

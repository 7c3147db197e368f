/-! the words of a tape, by place -/
def TpOk (tf : Nat → Int32) (tb : Nat → Nat) : Prop := ∀ i, tf i = nI (tb i) ∧ tb i < 256
def srt (tb : Nat → Nat) (tl i : Nat) : Nat := if i < tl then (if 97 ≤ tb i ∧ tb i ≤ 122 then 1 else if 48 ≤ tb i ∧ tb i ≤ 57 then 2 else 0) else 0
def skp (tb : Nat → Nat) : Nat → Nat → Nat
  | 0, p => p
  | f + 1, p => if tb p = 32 then skp tb f (p + 1) else p
def rnE (tb : Nat → Nat) (tl s : Nat) : Nat → Nat → Nat
  | 0, p => p
  | f + 1, p => if srt tb tl p = s then rnE tb tl s f (p + 1) else p
theorem srt_3 (tb : Nat → Nat) (tl i : Nat) : srt tb tl i < 3 := by unfold srt; (repeat' split) <;> omega
theorem srt_hi {tb : Nat → Nat} {tl i : Nat} (h : tl ≤ i) : srt tb tl i = 0 := if_neg (by omega)
theorem skp_rng {tb : Nat → Nat} : ∀ (f p : Nat), p ≤ skp tb f p ∧ skp tb f p ≤ p + f ∧ (∀ i, p ≤ i → i < skp tb f p → tb i = 32) ∧ (skp tb f p < p + f → ¬ tb (skp tb f p) = 32) := by
  intro f
  induction f with
  | zero => intro p; exact ⟨Nat.le_refl _, Nat.le_refl _, fun i h1 h2 => by have : i < p := h2; omega, fun h => by have : p < p := h; omega⟩
  | succ f ih =>
    intro p
    rw [skp]
    by_cases e : tb p = 32
    · rw [if_pos e]
      obtain ⟨a, b, c, d⟩ := ih (p + 1)
      refine ⟨by omega, by omega, fun i h1 h2 => ?_, fun h => d (by omega)⟩
      by_cases q : i = p
      · rw [q]; exact e
      · exact c i (by omega) h2
    · rw [if_neg e]
      exact ⟨Nat.le_refl _, by omega, fun i h1 h2 => by omega, fun _ => e⟩
theorem rnE_rng {tb : Nat → Nat} {tl s : Nat} : ∀ (f p : Nat), p ≤ rnE tb tl s f p ∧ rnE tb tl s f p ≤ p + f ∧ (∀ i, p ≤ i → i < rnE tb tl s f p → srt tb tl i = s) := by
  intro f
  induction f with
  | zero => intro p; exact ⟨Nat.le_refl _, Nat.le_refl _, fun i h1 h2 => by have : i < p := h2; omega⟩
  | succ f ih =>
    intro p
    rw [rnE]
    by_cases e : srt tb tl p = s
    · rw [if_pos e]
      obtain ⟨a, b, c⟩ := ih (p + 1)
      refine ⟨by omega, by omega, fun i h1 h2 => ?_⟩
      by_cases q : i = p
      · rw [q]; exact e
      · exact c i (by omega) h2
    · rw [if_neg e]
      exact ⟨Nat.le_refl _, by omega, fun i h1 h2 => by omega⟩
def bgT (tb : Nat → Nat) (tl p : Nat) : Nat := skp tb (tl - p) p
def enT (tb : Nat → Nat) (tl b : Nat) : Nat := if srt tb tl b = 0 then b + 1 else rnE tb tl (srt tb tl b) (tl - (b + 1)) (b + 1)
def glT (tb : Nat → Nat) (tl b : Nat) : Prop := 0 < b ∧ ¬ srt tb tl (b - 1) = 0
def nvl (tb : Nat → Nat) (b : Nat) : Nat → Nat
  | 0 => 0
  | k + 1 => 10 * nvl tb b k + (tb (b + k) - 48)
def isNm (ky c : Nat) : Bool := if ky = 0 then decide (c = 116 ∨ c = 115 ∨ c = 104) else if ky = 1 then decide (c = 99 ∨ c = 117) else decide (c = 116 ∨ c = 99)
/-- the kind of the word at b: 0 a number, 1 a name, 2 a sign, 3 what fits nowhere -/
def tkI (tb : Nat → Nat) (tl ky b : Nat) (r : Nat × Nat) : Prop := (srt tb tl b = 0 ∧ r = (2, tb b)) ∨ (srt tb tl b = 1 ∧ ¬ glT tb tl b ∧ enT tb tl b = b + 1 ∧ isNm ky (tb b) = true ∧ r = (1, tb b)) ∨ (srt tb tl b = 1 ∧ (glT tb tl b ∨ ¬ enT tb tl b = b + 1 ∨ isNm ky (tb b) = false) ∧ r = (3, 0)) ∨ (srt tb tl b = 2 ∧ ¬ glT tb tl b ∧ enT tb tl b - b ≤ 4 ∧ r = (0, nvl tb b (enT tb tl b - b))) ∨ (srt tb tl b = 2 ∧ (glT tb tl b ∨ ¬ enT tb tl b - b ≤ 4) ∧ r = (3, 0))
theorem tkI_ex (tb : Nat → Nat) (tl ky b : Nat) : ∃ r, tkI tb tl ky b r := by
  have h3 := srt_3 tb tl b
  by_cases h0 : srt tb tl b = 0
  · exact ⟨_, Or.inl ⟨h0, rfl⟩⟩
  · by_cases hg : glT tb tl b
    · by_cases h1 : srt tb tl b = 1
      · exact ⟨_, Or.inr (Or.inr (Or.inl ⟨h1, Or.inl hg, rfl⟩))⟩
      · exact ⟨_, Or.inr (Or.inr (Or.inr (Or.inr ⟨by omega, Or.inl hg, rfl⟩)))⟩
    · by_cases h1 : srt tb tl b = 1
      · by_cases he : enT tb tl b = b + 1
        · cases hn : isNm ky (tb b) with
          | true => exact ⟨_, Or.inr (Or.inl ⟨h1, hg, he, hn, rfl⟩)⟩
          | false => exact ⟨_, Or.inr (Or.inr (Or.inl ⟨h1, Or.inr (Or.inr hn), rfl⟩))⟩
        · exact ⟨_, Or.inr (Or.inr (Or.inl ⟨h1, Or.inr (Or.inl he), rfl⟩))⟩
      · by_cases he : enT tb tl b - b ≤ 4
        · exact ⟨_, Or.inr (Or.inr (Or.inr (Or.inl ⟨by omega, hg, he, rfl⟩)))⟩
        · exact ⟨_, Or.inr (Or.inr (Or.inr (Or.inr ⟨by omega, Or.inr he, rfl⟩)))⟩
def TkL (tb : Nat → Nat) (tl ky : Nat) : Nat → List Tkn → Prop
  | p, [] => bgT tb tl p = tl
  | p, t :: r => bgT tb tl p < tl ∧ t.1 = bgT tb tl p ∧ t.2.1 = enT tb tl (bgT tb tl p) ∧ tkI tb tl ky (bgT tb tl p) t.2.2 ∧ TkL tb tl ky (enT tb tl (bgT tb tl p)) r
theorem bg_rng {tb : Nat → Nat} {tl p : Nat} (h : p ≤ tl) : p ≤ bgT tb tl p ∧ bgT tb tl p ≤ tl := by
  have := skp_rng (tb := tb) (tl - p) p
  unfold bgT
  omega
theorem en_rng {tb : Nat → Nat} {tl b : Nat} (h : b < tl) : b + 1 ≤ enT tb tl b ∧ enT tb tl b ≤ tl := by
  have := rnE_rng (tb := tb) (tl := tl) (s := srt tb tl b) (tl - (b + 1)) (b + 1)
  unfold enT
  split <;> omega
theorem TkL_ex (tb : Nat → Nat) (tl ky : Nat) : ∀ (m p : Nat), p + m = tl → ∃ ts, TkL tb tl ky p ts ∧ ts.length ≤ tl - p := by
  intro m
  induction m using Nat.strongRecOn with
  | _ m ih =>
    intro p hp
    have hb := bg_rng (tb := tb) (show p ≤ tl by omega)
    by_cases e : bgT tb tl p < tl
    · have he := en_rng (tb := tb) e
      obtain ⟨ts, h1, h2⟩ := ih (tl - enT tb tl (bgT tb tl p)) (by omega) (enT tb tl (bgT tb tl p)) (by omega)
      obtain ⟨r, hr⟩ := tkI_ex tb tl ky (bgT tb tl p)
      exact ⟨(bgT tb tl p, enT tb tl (bgT tb tl p), r) :: ts, ⟨e, rfl, rfl, hr, h1⟩, by simp only [List.length_cons]; omega⟩
    · exact ⟨[], by show bgT tb tl p = tl; omega, Nat.zero_le _⟩
/-- the sort of the letter or digit ahead of the end of a word -/
theorem en_last {tb : Nat → Nat} {tl b : Nat} (h : b < tl) : srt tb tl (enT tb tl b - 1) = srt tb tl b := by
  have hr := rnE_rng (tb := tb) (tl := tl) (s := srt tb tl b) (tl - (b + 1)) (b + 1)
  unfold enT
  by_cases e : srt tb tl b = 0
  · rw [if_pos e, Nat.add_sub_cancel]
  · rw [if_neg e]
    by_cases q : rnE tb tl (srt tb tl b) (tl - (b + 1)) (b + 1) = b + 1
    · rw [q, Nat.add_sub_cancel]
    · exact hr.2.2 _ (by omega) (by omega)
theorem gl_bg {tb : Nat → Nat} {tl p : Nat} (hp : p ≤ tl) (h : glT tb tl (bgT tb tl p)) : bgT tb tl p = p := by
  have hr := skp_rng (tb := tb) (tl - p) p
  obtain ⟨h1, h2⟩ := h
  unfold bgT at h1 h2 ⊢
  by_cases e : skp tb (tl - p) p = p
  · exact e
  · have e32 := hr.2.2.1 (skp tb (tl - p) p - 1) (by omega) (by omega)
    exact absurd (by unfold srt; rw [e32]; simp) h2
theorem nvl_lt {tb : Nat → Nat} {b : Nat} : ∀ k, (∀ i, i < k → tb (b + i) ≤ 57) → nvl tb b k < 10 ^ k := by
  intro k
  induction k with
  | zero => intro _; show 0 < 1; decide
  | succ k ih =>
    intro h
    have := ih (fun i hi => h i (by omega))
    have := h k (by omega)
    rw [nvl, Nat.pow_succ]
    omega
theorem srt_1 {tb : Nat → Nat} {tl i : Nat} : srt tb tl i = 1 ↔ i < tl ∧ 97 ≤ tb i ∧ tb i ≤ 122 := by
  unfold srt
  (repeat' split) <;> omega
theorem srt_2 {tb : Nat → Nat} {tl i : Nat} : srt tb tl i = 2 ↔ i < tl ∧ 48 ≤ tb i ∧ tb i ≤ 57 := by
  unfold srt
  (repeat' split) <;> omega
/-- what the reference's calls on the tape stand on -/
def TpM (g : Gl) (h : AH) (z s tf : Nat → Int32) (tl : Nat) : Prop := Ms g h z s ∧ h[89]? = some (ia g 96 tf) ∧ z 15 = nI tl ∧ tl ≤ 96
set_option maxHeartbeats 4000000 in
set_option maxRecDepth 100000 in
theorem c_M_isLetter {g : Gl} {d ks : Nat} {h : AH} {z s tf : Nat → Int32} {tb : Nat → Nat} {tl : Nat} (hT : TpM g h z s tf tl) (hB : TpOk tf tb) (hd : 1 ≤ d) {i : Nat} (hi : i ≤ 96) : Ex g mX7_isLetter d 0 ks 0 [some (.ref (g.1 + 75)), some (.int (nI i))] [] h (qi (fun h' r => h' = h ∧ r = bI (decide (srt tb tl i = 1) = true))) := by
  obtain ⟨hM, h89, hz, htl⟩ := hT
  refine ex_iload_n (pc := 0) dX7_isLetter_0 rfl ?_
  refine ex_aload_n (pc := 1) dX7_isLetter_1 rfl ?_
  refine ex_get (pc := 2) dX7_isLetter_2 fl_X7_268 hM.1 rfl ?_
  rw [hz]
  refine ex_icmp_ge (pc := 5) (tgt := 31) dX7_isLetter_5 (by decide) (fun c_5 => ?_) (fun c_5 => ?_)
  · skip
    refine ex_iconst (pc := 31) (v := 0) dX7_isLetter_31 (by decide) ?_
    refine ex_zret dX7_isLetter_32 rfl (by first | exact Or.inl rfl | exact Or.inr rfl | exact bI_01 _) ?_
    refine qi_mk ⟨rfl, ?_⟩
    have q : tl ≤ i := (nI_leI (by omega) (by omega)).mp c_5
    rw [srt_hi q]
    rfl
  · skip
    refine ex_aload_n (pc := 8) dX7_isLetter_8 rfl ?_
    refine ex_get (pc := 9) dX7_isLetter_9 fl_X7_50 hM.1 rfl ?_
    refine ex_iload_n (pc := 12) dX7_isLetter_12 rfl ?_
    refine ex_ildn (k := i) (pc := 13) dX7_isLetter_13 h89 rfl (by have := Nat.not_le.mp (fun q => c_5 (nI_le q (by omega))); omega) (by decide) ?_
    rw [(hB i).1]
    refine ex_i2l (pc := 14) dX7_isLetter_14 ?_
    refine ex_ldc2_w (pc := 15) dX7_isLetter_15 cn_X7_272 ?_
    refine ex_ldc2_w (pc := 18) dX7_isLetter_18 cn_X7_274 ?_
    refine cx_SL3i (pc := 21) dX7_isLetter_21 lk_X7_69 rfl (Nat.le_of_ble_eq_true rfl) (Nat.le_of_ble_eq_true rfl) (by omega) (c_M_inz _ (a := nI 97) (b := nI 122) (by decide) (by decide)) (fun h_21 x_21 q_21 => ?_)
    obtain ⟨e_21, f_21⟩ := q_21
    rw [e_21, f_21]
    refine ex_if_eq (pc := 24) (tgt := 31) dX7_isLetter_24 (by decide) (fun c_24 => ?_) (fun c_24 => ?_)
    · skip
      have b_24 := bF c_24
      refine ex_iconst (pc := 31) (v := 0) dX7_isLetter_31 (by decide) ?_
      refine ex_zret dX7_isLetter_32 rfl (by first | exact Or.inl rfl | exact Or.inr rfl | exact bI_01 _) ?_
      refine qi_mk ⟨rfl, ?_⟩
      have q : i < tl := Nat.not_le.mp (fun q => c_5 (nI_le q (by omega)))
      have hb := (hB i).2
      have k : ¬ srt tb tl i = 1 := fun z => (of_decide_eq_false b_24) (by rw [srt_1] at z; exact ⟨nI_le z.2.1 (by omega), nI_le z.2.2 (by omega)⟩)
      rw [decide_eq_false k]
      rfl
    · skip
      have b_24 := bT c_24
      refine ex_iconst (pc := 27) (v := 1) dX7_isLetter_27 (by decide) ?_
      refine ex_goto (pc := 28) (tgt := 32) dX7_isLetter_28 (by decide) ?_
      refine ex_zret dX7_isLetter_32 rfl (by first | exact Or.inl rfl | exact Or.inr rfl | exact bI_01 _) ?_
      refine qi_mk ⟨rfl, ?_⟩
      have q : i < tl := Nat.not_le.mp (fun q => c_5 (nI_le q (by omega)))
      have hb := (hB i).2
      have k0 := of_decide_eq_true b_24
      have k : srt tb tl i = 1 := srt_1.mpr ⟨q, (nI_leI (by omega) (by omega)).mp k0.1, (nI_leI (by omega) (by omega)).mp k0.2⟩
      rw [decide_eq_true k]
      rfl
set_option maxHeartbeats 4000000 in
set_option maxRecDepth 100000 in
theorem c_M_isDigit {g : Gl} {d ks : Nat} {h : AH} {z s tf : Nat → Int32} {tb : Nat → Nat} {tl : Nat} (hT : TpM g h z s tf tl) (hB : TpOk tf tb) (hd : 1 ≤ d) {i : Nat} (hi : i ≤ 96) : Ex g mX7_isDigit d 0 ks 0 [some (.ref (g.1 + 75)), some (.int (nI i))] [] h (qi (fun h' r => h' = h ∧ r = bI (decide (srt tb tl i = 2) = true))) := by
  obtain ⟨hM, h89, hz, htl⟩ := hT
  refine ex_iload_n (pc := 0) dX7_isDigit_0 rfl ?_
  refine ex_aload_n (pc := 1) dX7_isDigit_1 rfl ?_
  refine ex_get (pc := 2) dX7_isDigit_2 fl_X7_268 hM.1 rfl ?_
  rw [hz]
  refine ex_icmp_ge (pc := 5) (tgt := 31) dX7_isDigit_5 (by decide) (fun c_5 => ?_) (fun c_5 => ?_)
  · skip
    refine ex_iconst (pc := 31) (v := 0) dX7_isDigit_31 (by decide) ?_
    refine ex_zret dX7_isDigit_32 rfl (by first | exact Or.inl rfl | exact Or.inr rfl | exact bI_01 _) ?_
    refine qi_mk ⟨rfl, ?_⟩
    have q : tl ≤ i := (nI_leI (by omega) (by omega)).mp c_5
    rw [srt_hi q]
    rfl
  · skip
    refine ex_aload_n (pc := 8) dX7_isDigit_8 rfl ?_
    refine ex_get (pc := 9) dX7_isDigit_9 fl_X7_50 hM.1 rfl ?_
    refine ex_iload_n (pc := 12) dX7_isDigit_12 rfl ?_
    refine ex_ildn (k := i) (pc := 13) dX7_isDigit_13 h89 rfl (by have := Nat.not_le.mp (fun q => c_5 (nI_le q (by omega))); omega) (by decide) ?_
    rw [(hB i).1]
    refine ex_i2l (pc := 14) dX7_isDigit_14 ?_
    refine ex_ldc2_w (pc := 15) dX7_isDigit_15 cn_X7_276 ?_
    refine ex_ldc2_w (pc := 18) dX7_isDigit_18 cn_X7_278 ?_
    refine cx_SL3i (pc := 21) dX7_isDigit_21 lk_X7_69 rfl (Nat.le_of_ble_eq_true rfl) (Nat.le_of_ble_eq_true rfl) (by omega) (c_M_inz _ (a := nI 48) (b := nI 57) (by decide) (by decide)) (fun h_21 x_21 q_21 => ?_)
    obtain ⟨e_21, f_21⟩ := q_21
    rw [e_21, f_21]
    refine ex_if_eq (pc := 24) (tgt := 31) dX7_isDigit_24 (by decide) (fun c_24 => ?_) (fun c_24 => ?_)
    · skip
      have b_24 := bF c_24
      refine ex_iconst (pc := 31) (v := 0) dX7_isDigit_31 (by decide) ?_
      refine ex_zret dX7_isDigit_32 rfl (by first | exact Or.inl rfl | exact Or.inr rfl | exact bI_01 _) ?_
      refine qi_mk ⟨rfl, ?_⟩
      have q : i < tl := Nat.not_le.mp (fun q => c_5 (nI_le q (by omega)))
      have hb := (hB i).2
      have k : ¬ srt tb tl i = 2 := fun z => (of_decide_eq_false b_24) (by rw [srt_2] at z; exact ⟨nI_le z.2.1 (by omega), nI_le z.2.2 (by omega)⟩)
      rw [decide_eq_false k]
      rfl
    · skip
      have b_24 := bT c_24
      refine ex_iconst (pc := 27) (v := 1) dX7_isDigit_27 (by decide) ?_
      refine ex_goto (pc := 28) (tgt := 32) dX7_isDigit_28 (by decide) ?_
      refine ex_zret dX7_isDigit_32 rfl (by first | exact Or.inl rfl | exact Or.inr rfl | exact bI_01 _) ?_
      refine qi_mk ⟨rfl, ?_⟩
      have q : i < tl := Nat.not_le.mp (fun q => c_5 (nI_le q (by omega)))
      have hb := (hB i).2
      have k0 := of_decide_eq_true b_24
      have k : srt tb tl i = 2 := srt_2.mpr ⟨q, (nI_leI (by omega) (by omega)).mp k0.1, (nI_leI (by omega) (by omega)).mp k0.2⟩
      rw [decide_eq_true k]
      rfl

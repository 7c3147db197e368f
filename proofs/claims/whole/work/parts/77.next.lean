/-! the reference goes on to the next word -/
def c75 (k : Nat) : Prop := k = 75
theorem TpM.z {g : Gl} {h : AH} {z s tf : Nat → Int32} {tl : Nat} (a : TpM g h z s tf tl) {z' : Nat → Int32} (h15 : z' 15 = z 15) : TpM g (h.set 75 (moC g z')) z' s tf tl := ⟨a.1.z z', gs_ne (by decide) a.2.1, h15.trans a.2.2.1, a.2.2.2⟩
def zK (z z' : Nat → Int32) : Prop := ∀ k, (k < 16 ∨ 20 < k) → z' k = z k
theorem zK.rf {z : Nat → Int32} : zK z z := fun _ _ => rfl
theorem zK.up {z z' : Nat → Int32} (a : zK z z') {k : Nat} {v : Int32} (h1 : 16 ≤ k) (h2 : k ≤ 20) : zK z (upd z' k v) := fun j hj => (upd_ne (by omega)).trans (a j hj)
theorem zK.tr {z z' z'' : Nat → Int32} (a : zK z z') (b : zK z' z'') : zK z z'' := fun k hk => (b k hk).trans (a k hk)
/-- the reference's own picture of the word at b -/
def tkZ (tb : Nat → Nat) (tl b : Nat) (z : Nat → Int32) : Prop := z 16 = nI b ∧ (b = tl → z 18 = nI 0) ∧ (b < tl → z 17 = nI (enT tb tl b) ∧ (srt tb tl b = 0 → z 18 = nI 3 ∧ z 20 = nI (tb b)) ∧ (srt tb tl b = 1 → ((glT tb tl b → z 18 = nI 4) ∧ (¬ glT tb tl b → z 18 = nI 1)) ∧ (enT tb tl b = b + 1 → z 20 = nI (tb b)) ∧ (¬ enT tb tl b = b + 1 → z 20 = nI 0)) ∧ (srt tb tl b = 2 → ((glT tb tl b ∨ ¬ enT tb tl b - b ≤ 4) → z 18 = nI 4) ∧ ((¬ glT tb tl b ∧ enT tb tl b - b ≤ 4) → z 18 = nI 2 ∧ z 19 = nI (nvl tb b (enT tb tl b - b)))))
theorem rn_1 {tb : Nat → Nat} {tl b s : Nat} (h : b < tl) (hs : srt tb tl b = s) (h0 : ¬ s = 0) : rnE tb tl s (tl - b) b = enT tb tl b := by
  unfold enT
  rw [if_neg (by omega), show tl - b = (tl - (b + 1)) + 1 by omega, rnE, if_pos hs, hs]
theorem rn_hi {tb : Nat → Nat} {tl s q : Nat} (h0 : ¬ s = 0) (f : Nat) (h : ¬ srt tb tl q = s) : rnE tb tl s f q = q := by
  cases f with
  | zero => rfl
  | succ f => rw [rnE, if_neg h]
set_option maxHeartbeats 4000000 in
set_option maxRecDepth 100000 in
theorem c_M_nt_l {g : Gl} {d ks : Nat} {h : AH} {z s tf : Nat → Int32} {tb : Nat → Nat} {tl b : Nat} (hB : TpOk tf tb) (htl : tl ≤ 96) (hb : b < tl) (hb1 : srt tb tl b = 1) {τ : Nat} (hτ : (glT tb tl b → τ = 1) ∧ (¬ glT tb tl b → τ = 0)) (l2 : Option Value) (hd : 2 ≤ d) : ∀ (m q : Nat) (h1 : AH) (z1 : Nat → Int32), TpM g h1 z1 s tf tl → zK z z1 → z1 16 = nI b → z1 17 = nI q → FrX c75 g h h1 → b ≤ q → rnE tb tl 1 (tl - q) q = enT tb tl b → q + m = tl → Ex g mX7_nextToken d 0 ks 128 [some (.ref (g.1 + 75)), some (.int (nI τ)), l2] [] h1 (qv (fun h' => ∃ z', TpM g h' z' s tf tl ∧ zK z z' ∧ tkZ tb tl b z' ∧ FrX c75 g h h')) := by
  intro m
  induction m with
  | zero =>
    intro q h1 z1 hT1 zk h16 h17 hF hbq hq hm
    have hs : ¬ srt tb tl q = 1 := by rw [srt_hi (by omega)]; decide
    rw [rn_hi (by decide) _ hs] at hq
    refine ex_aload_n (pc := 128) dX7_nextToken_128 rfl ?_
    refine ex_aload_n (pc := 129) dX7_nextToken_129 rfl ?_
    refine ex_get (pc := 130) dX7_nextToken_130 fl_X7_280 hT1.1.1 rfl ?_
    rw [h17]
    refine cx_VL1i (pc := 133) dX7_nextToken_133 lk_X7_289 hT1.1.1 rfl (Nat.le_of_ble_eq_true rfl) (Nat.le_of_ble_eq_true rfl) (by omega) (c_M_isLetter hT1 hB (by omega) (i := q) (by omega)) (fun h_133 x_133 q_133 => ?_)
    obtain ⟨e_133, f_133⟩ := q_133
    rw [e_133, f_133]
    refine bx_if_eq_t (pc := 136) (tgt := 152) dX7_nextToken_136 (by decide) (by rw [decide_eq_false hs]; rfl) ?_
    have he : q = enT tb tl b := hq
    by_cases hg : glT tb tl b
    · obtain rfl : τ = 1 := hτ.1 hg
      refine ex_aload_n (pc := 152) dX7_nextToken_152 rfl ?_
      refine ex_iload_n (pc := 153) dX7_nextToken_153 rfl ?_
      refine bx_if_eq_f (pc := 154) (tgt := 161) dX7_nextToken_154 (by decide) (by decide) ?_
      refine ex_iconst (pc := 157) (v := (nI 4)) dX7_nextToken_157 (by decide) ?_
      refine ex_goto (pc := 158) (tgt := 162) dX7_nextToken_158 (by decide) ?_
      refine ex_put (pc := 162) dX7_nextToken_162 fp_X7_283 hT1.1.1 (Nat.le_of_ble_eq_true rfl) rfl rfl ?_
      rw [mo_18]
      refine ex_aload_n (pc := 165) dX7_nextToken_165 rfl ?_
      refine ex_aload_n (pc := 166) dX7_nextToken_166 rfl ?_
      refine ex_get (pc := 167) dX7_nextToken_167 fl_X7_280 (hT1.z (z' := upd z1 18 (nI 4)) (upd_ne (by decide))).1.1 rfl ?_
      refine ex_aload_n (pc := 170) dX7_nextToken_170 rfl ?_
      refine ex_get (pc := 171) dX7_nextToken_171 fl_X7_286 (hT1.z (z' := upd z1 18 (nI 4)) (upd_ne (by decide))).1.1 rfl ?_
      rw [upd_ne (by decide), upd_ne (by decide), h17, h16]
      refine ex_isub (pc := 174) dX7_nextToken_174 ?_
      rw [nI_sub (by omega)]
      refine ex_iconst (pc := 175) (v := (nI 1)) dX7_nextToken_175 (by decide) ?_
      refine ex_icmp_ne (pc := 176) (tgt := 191) dX7_nextToken_176 (by decide) (fun c_176 => ?_) (fun c_176 => ?_)
      · skip
        refine ex_iconst (pc := 191) (v := (nI 0)) dX7_nextToken_191 (by decide) ?_
        refine ex_put (pc := 192) dX7_nextToken_192 fp_X7_292 (hT1.z (z' := upd z1 18 (nI 4)) (upd_ne (by decide))).1.1 (Nat.le_of_ble_eq_true rfl) rfl rfl ?_
        rw [mo_20]
        refine ex_goto (pc := 195) (tgt := 339) dX7_nextToken_195 (by decide) ?_
        refine ex_vret dX7_nextToken_339 rfl ?_
        have e1 : ¬ enT tb tl b = b + 1 := fun z => c_176 ((nI_eq (by omega) (by omega)).mpr (by omega))
        refine qv_mk ⟨(upd (upd z1 18 (nI 4)) 20 (nI 0)), (hT1.z (z' := (upd z1 18 (nI 4))) (upd_ne (by decide))).z (upd_ne (by decide)), (zk.up (by omega) (by omega)).up (by omega) (by omega), ?_, ((hF.tr (FrX.st rfl (nscr (by omega)))).tr (FrX.st rfl (nscr (by omega))))⟩
        refine ⟨(upd_ne (by decide)).trans ((upd_ne (by decide)).trans h16), fun z => by omega, fun _ => ⟨?_, fun z => by omega, fun _ => ⟨⟨fun q => ?_, fun q => ?_⟩, fun q => ?_, fun q => ?_⟩, fun z => by omega⟩⟩
        · rw [upd_ne (by decide), upd_ne (by decide), h17, he]
        · rw [upd_ne (by decide), upd_eq]
        · exact absurd hg q
        · exact absurd q e1
        · rw [upd_eq]
      · skip
        refine ex_aload_n (pc := 179) dX7_nextToken_179 rfl ?_
        refine ex_get (pc := 180) dX7_nextToken_180 fl_X7_50 (hT1.z (z' := upd z1 18 (nI 4)) (upd_ne (by decide))).1.1 rfl ?_
        refine ex_aload_n (pc := 183) dX7_nextToken_183 rfl ?_
        refine ex_get (pc := 184) dX7_nextToken_184 fl_X7_286 (hT1.z (z' := upd z1 18 (nI 4)) (upd_ne (by decide))).1.1 rfl ?_
        rw [upd_ne (by decide), h16]
        refine ex_ildn (k := b) (pc := 187) dX7_nextToken_187 (hT1.z (z' := upd z1 18 (nI 4)) (upd_ne (by decide))).2.1 rfl (by omega) (by decide) ?_
        rw [(hB b).1]
        refine ex_goto (pc := 188) (tgt := 192) dX7_nextToken_188 (by decide) ?_
        refine ex_put (pc := 192) dX7_nextToken_192 fp_X7_292 (hT1.z (z' := upd z1 18 (nI 4)) (upd_ne (by decide))).1.1 (Nat.le_of_ble_eq_true rfl) rfl rfl ?_
        rw [mo_20]
        refine ex_goto (pc := 195) (tgt := 339) dX7_nextToken_195 (by decide) ?_
        refine ex_vret dX7_nextToken_339 rfl ?_
        have e1 : enT tb tl b = b + 1 := by
          have := (nI_eq (by omega) (by omega)).mp c_176
          omega
        refine qv_mk ⟨(upd (upd z1 18 (nI 4)) 20 (nI (tb b))), (hT1.z (z' := (upd z1 18 (nI 4))) (upd_ne (by decide))).z (upd_ne (by decide)), (zk.up (by omega) (by omega)).up (by omega) (by omega), ?_, ((hF.tr (FrX.st rfl (nscr (by omega)))).tr (FrX.st rfl (nscr (by omega))))⟩
        refine ⟨(upd_ne (by decide)).trans ((upd_ne (by decide)).trans h16), fun z => by omega, fun _ => ⟨?_, fun z => by omega, fun _ => ⟨⟨fun q => ?_, fun q => ?_⟩, fun q => ?_, fun q => ?_⟩, fun z => by omega⟩⟩
        · rw [upd_ne (by decide), upd_ne (by decide), h17, he]
        · rw [upd_ne (by decide), upd_eq]
        · exact absurd hg q
        · rw [upd_eq]
        · exact absurd e1 q
    · obtain rfl : τ = 0 := hτ.2 hg
      refine ex_aload_n (pc := 152) dX7_nextToken_152 rfl ?_
      refine ex_iload_n (pc := 153) dX7_nextToken_153 rfl ?_
      refine bx_if_eq_t (pc := 154) (tgt := 161) dX7_nextToken_154 (by decide) (rfl) ?_
      refine ex_iconst (pc := 161) (v := (nI 1)) dX7_nextToken_161 (by decide) ?_
      refine ex_put (pc := 162) dX7_nextToken_162 fp_X7_283 hT1.1.1 (Nat.le_of_ble_eq_true rfl) rfl rfl ?_
      rw [mo_18]
      refine ex_aload_n (pc := 165) dX7_nextToken_165 rfl ?_
      refine ex_aload_n (pc := 166) dX7_nextToken_166 rfl ?_
      refine ex_get (pc := 167) dX7_nextToken_167 fl_X7_280 (hT1.z (z' := upd z1 18 (nI 1)) (upd_ne (by decide))).1.1 rfl ?_
      refine ex_aload_n (pc := 170) dX7_nextToken_170 rfl ?_
      refine ex_get (pc := 171) dX7_nextToken_171 fl_X7_286 (hT1.z (z' := upd z1 18 (nI 1)) (upd_ne (by decide))).1.1 rfl ?_
      rw [upd_ne (by decide), upd_ne (by decide), h17, h16]
      refine ex_isub (pc := 174) dX7_nextToken_174 ?_
      rw [nI_sub (by omega)]
      refine ex_iconst (pc := 175) (v := (nI 1)) dX7_nextToken_175 (by decide) ?_
      refine ex_icmp_ne (pc := 176) (tgt := 191) dX7_nextToken_176 (by decide) (fun c_176 => ?_) (fun c_176 => ?_)
      · skip
        refine ex_iconst (pc := 191) (v := (nI 0)) dX7_nextToken_191 (by decide) ?_
        refine ex_put (pc := 192) dX7_nextToken_192 fp_X7_292 (hT1.z (z' := upd z1 18 (nI 1)) (upd_ne (by decide))).1.1 (Nat.le_of_ble_eq_true rfl) rfl rfl ?_
        rw [mo_20]
        refine ex_goto (pc := 195) (tgt := 339) dX7_nextToken_195 (by decide) ?_
        refine ex_vret dX7_nextToken_339 rfl ?_
        have e1 : ¬ enT tb tl b = b + 1 := fun z => c_176 ((nI_eq (by omega) (by omega)).mpr (by omega))
        refine qv_mk ⟨(upd (upd z1 18 (nI 1)) 20 (nI 0)), (hT1.z (z' := (upd z1 18 (nI 1))) (upd_ne (by decide))).z (upd_ne (by decide)), (zk.up (by omega) (by omega)).up (by omega) (by omega), ?_, ((hF.tr (FrX.st rfl (nscr (by omega)))).tr (FrX.st rfl (nscr (by omega))))⟩
        refine ⟨(upd_ne (by decide)).trans ((upd_ne (by decide)).trans h16), fun z => by omega, fun _ => ⟨?_, fun z => by omega, fun _ => ⟨⟨fun q => ?_, fun q => ?_⟩, fun q => ?_, fun q => ?_⟩, fun z => by omega⟩⟩
        · rw [upd_ne (by decide), upd_ne (by decide), h17, he]
        · exact absurd q hg
        · rw [upd_ne (by decide), upd_eq]
        · exact absurd q e1
        · rw [upd_eq]
      · skip
        refine ex_aload_n (pc := 179) dX7_nextToken_179 rfl ?_
        refine ex_get (pc := 180) dX7_nextToken_180 fl_X7_50 (hT1.z (z' := upd z1 18 (nI 1)) (upd_ne (by decide))).1.1 rfl ?_
        refine ex_aload_n (pc := 183) dX7_nextToken_183 rfl ?_
        refine ex_get (pc := 184) dX7_nextToken_184 fl_X7_286 (hT1.z (z' := upd z1 18 (nI 1)) (upd_ne (by decide))).1.1 rfl ?_
        rw [upd_ne (by decide), h16]
        refine ex_ildn (k := b) (pc := 187) dX7_nextToken_187 (hT1.z (z' := upd z1 18 (nI 1)) (upd_ne (by decide))).2.1 rfl (by omega) (by decide) ?_
        rw [(hB b).1]
        refine ex_goto (pc := 188) (tgt := 192) dX7_nextToken_188 (by decide) ?_
        refine ex_put (pc := 192) dX7_nextToken_192 fp_X7_292 (hT1.z (z' := upd z1 18 (nI 1)) (upd_ne (by decide))).1.1 (Nat.le_of_ble_eq_true rfl) rfl rfl ?_
        rw [mo_20]
        refine ex_goto (pc := 195) (tgt := 339) dX7_nextToken_195 (by decide) ?_
        refine ex_vret dX7_nextToken_339 rfl ?_
        have e1 : enT tb tl b = b + 1 := by
          have := (nI_eq (by omega) (by omega)).mp c_176
          omega
        refine qv_mk ⟨(upd (upd z1 18 (nI 1)) 20 (nI (tb b))), (hT1.z (z' := (upd z1 18 (nI 1))) (upd_ne (by decide))).z (upd_ne (by decide)), (zk.up (by omega) (by omega)).up (by omega) (by omega), ?_, ((hF.tr (FrX.st rfl (nscr (by omega)))).tr (FrX.st rfl (nscr (by omega))))⟩
        refine ⟨(upd_ne (by decide)).trans ((upd_ne (by decide)).trans h16), fun z => by omega, fun _ => ⟨?_, fun z => by omega, fun _ => ⟨⟨fun q => ?_, fun q => ?_⟩, fun q => ?_, fun q => ?_⟩, fun z => by omega⟩⟩
        · rw [upd_ne (by decide), upd_ne (by decide), h17, he]
        · exact absurd q hg
        · rw [upd_ne (by decide), upd_eq]
        · rw [upd_eq]
        · exact absurd e1 q
  | succ m ih =>
    intro q h1 z1 hT1 zk h16 h17 hF hbq hq hm
    by_cases hs : srt tb tl q = 1
    · skip
      refine ex_aload_n (pc := 128) dX7_nextToken_128 rfl ?_
      refine ex_aload_n (pc := 129) dX7_nextToken_129 rfl ?_
      refine ex_get (pc := 130) dX7_nextToken_130 fl_X7_280 hT1.1.1 rfl ?_
      rw [h17]
      refine cx_VL1i (pc := 133) dX7_nextToken_133 lk_X7_289 hT1.1.1 rfl (Nat.le_of_ble_eq_true rfl) (Nat.le_of_ble_eq_true rfl) (by omega) (c_M_isLetter hT1 hB (by omega) (i := q) (by omega)) (fun h_133 x_133 q_133 => ?_)
      obtain ⟨e_133, f_133⟩ := q_133
      rw [e_133, f_133]
      refine bx_if_eq_f (pc := 136) (tgt := 152) dX7_nextToken_136 (by decide) (by rw [decide_eq_true hs]; decide) ?_
      refine ex_aload_n (pc := 139) dX7_nextToken_139 rfl ?_
      refine ex_dup (pc := 140) dX7_nextToken_140 rfl ?_
      refine ex_get (pc := 141) dX7_nextToken_141 fl_X7_280 hT1.1.1 rfl ?_
      rw [h17]
      refine ex_iconst (pc := 144) (v := (nI 1)) dX7_nextToken_144 (by decide) ?_
      refine ex_iadd (pc := 145) dX7_nextToken_145 ?_
      refine ex_put (pc := 146) dX7_nextToken_146 fp_X7_280 hT1.1.1 (Nat.le_of_ble_eq_true rfl) rfl rfl ?_
      rw [mo_17, nI_add]
      refine ex_goto (pc := 149) (tgt := 128) dX7_nextToken_149 (by decide) ?_
      exact ih (q + 1) _ _ (hT1.z (upd_ne (by decide))) (zk.up (by omega) (by omega)) ((upd_ne (by decide)).trans h16) upd_eq (hF.tr (FrX.st rfl (nscr (by omega)))) (by omega) (by rw [← hq, show tl - q = (tl - (q + 1)) + 1 by omega, rnE, if_pos hs]) (by omega)
    · rw [rn_hi (by decide) _ hs] at hq
      refine ex_aload_n (pc := 128) dX7_nextToken_128 rfl ?_
      refine ex_aload_n (pc := 129) dX7_nextToken_129 rfl ?_
      refine ex_get (pc := 130) dX7_nextToken_130 fl_X7_280 hT1.1.1 rfl ?_
      rw [h17]
      refine cx_VL1i (pc := 133) dX7_nextToken_133 lk_X7_289 hT1.1.1 rfl (Nat.le_of_ble_eq_true rfl) (Nat.le_of_ble_eq_true rfl) (by omega) (c_M_isLetter hT1 hB (by omega) (i := q) (by omega)) (fun h_133 x_133 q_133 => ?_)
      obtain ⟨e_133, f_133⟩ := q_133
      rw [e_133, f_133]
      refine bx_if_eq_t (pc := 136) (tgt := 152) dX7_nextToken_136 (by decide) (by rw [decide_eq_false hs]; rfl) ?_
      have he : q = enT tb tl b := hq
      by_cases hg : glT tb tl b
      · obtain rfl : τ = 1 := hτ.1 hg
        refine ex_aload_n (pc := 152) dX7_nextToken_152 rfl ?_
        refine ex_iload_n (pc := 153) dX7_nextToken_153 rfl ?_
        refine bx_if_eq_f (pc := 154) (tgt := 161) dX7_nextToken_154 (by decide) (by decide) ?_
        refine ex_iconst (pc := 157) (v := (nI 4)) dX7_nextToken_157 (by decide) ?_
        refine ex_goto (pc := 158) (tgt := 162) dX7_nextToken_158 (by decide) ?_
        refine ex_put (pc := 162) dX7_nextToken_162 fp_X7_283 hT1.1.1 (Nat.le_of_ble_eq_true rfl) rfl rfl ?_
        rw [mo_18]
        refine ex_aload_n (pc := 165) dX7_nextToken_165 rfl ?_
        refine ex_aload_n (pc := 166) dX7_nextToken_166 rfl ?_
        refine ex_get (pc := 167) dX7_nextToken_167 fl_X7_280 (hT1.z (z' := upd z1 18 (nI 4)) (upd_ne (by decide))).1.1 rfl ?_
        refine ex_aload_n (pc := 170) dX7_nextToken_170 rfl ?_
        refine ex_get (pc := 171) dX7_nextToken_171 fl_X7_286 (hT1.z (z' := upd z1 18 (nI 4)) (upd_ne (by decide))).1.1 rfl ?_
        rw [upd_ne (by decide), upd_ne (by decide), h17, h16]
        refine ex_isub (pc := 174) dX7_nextToken_174 ?_
        rw [nI_sub (by omega)]
        refine ex_iconst (pc := 175) (v := (nI 1)) dX7_nextToken_175 (by decide) ?_
        refine ex_icmp_ne (pc := 176) (tgt := 191) dX7_nextToken_176 (by decide) (fun c_176 => ?_) (fun c_176 => ?_)
        · skip
          refine ex_iconst (pc := 191) (v := (nI 0)) dX7_nextToken_191 (by decide) ?_
          refine ex_put (pc := 192) dX7_nextToken_192 fp_X7_292 (hT1.z (z' := upd z1 18 (nI 4)) (upd_ne (by decide))).1.1 (Nat.le_of_ble_eq_true rfl) rfl rfl ?_
          rw [mo_20]
          refine ex_goto (pc := 195) (tgt := 339) dX7_nextToken_195 (by decide) ?_
          refine ex_vret dX7_nextToken_339 rfl ?_
          have e1 : ¬ enT tb tl b = b + 1 := fun z => c_176 ((nI_eq (by omega) (by omega)).mpr (by omega))
          refine qv_mk ⟨(upd (upd z1 18 (nI 4)) 20 (nI 0)), (hT1.z (z' := (upd z1 18 (nI 4))) (upd_ne (by decide))).z (upd_ne (by decide)), (zk.up (by omega) (by omega)).up (by omega) (by omega), ?_, ((hF.tr (FrX.st rfl (nscr (by omega)))).tr (FrX.st rfl (nscr (by omega))))⟩
          refine ⟨(upd_ne (by decide)).trans ((upd_ne (by decide)).trans h16), fun z => by omega, fun _ => ⟨?_, fun z => by omega, fun _ => ⟨⟨fun q => ?_, fun q => ?_⟩, fun q => ?_, fun q => ?_⟩, fun z => by omega⟩⟩
          · rw [upd_ne (by decide), upd_ne (by decide), h17, he]
          · rw [upd_ne (by decide), upd_eq]
          · exact absurd hg q
          · exact absurd q e1
          · rw [upd_eq]
        · skip
          refine ex_aload_n (pc := 179) dX7_nextToken_179 rfl ?_
          refine ex_get (pc := 180) dX7_nextToken_180 fl_X7_50 (hT1.z (z' := upd z1 18 (nI 4)) (upd_ne (by decide))).1.1 rfl ?_
          refine ex_aload_n (pc := 183) dX7_nextToken_183 rfl ?_
          refine ex_get (pc := 184) dX7_nextToken_184 fl_X7_286 (hT1.z (z' := upd z1 18 (nI 4)) (upd_ne (by decide))).1.1 rfl ?_
          rw [upd_ne (by decide), h16]
          refine ex_ildn (k := b) (pc := 187) dX7_nextToken_187 (hT1.z (z' := upd z1 18 (nI 4)) (upd_ne (by decide))).2.1 rfl (by omega) (by decide) ?_
          rw [(hB b).1]
          refine ex_goto (pc := 188) (tgt := 192) dX7_nextToken_188 (by decide) ?_
          refine ex_put (pc := 192) dX7_nextToken_192 fp_X7_292 (hT1.z (z' := upd z1 18 (nI 4)) (upd_ne (by decide))).1.1 (Nat.le_of_ble_eq_true rfl) rfl rfl ?_
          rw [mo_20]
          refine ex_goto (pc := 195) (tgt := 339) dX7_nextToken_195 (by decide) ?_
          refine ex_vret dX7_nextToken_339 rfl ?_
          have e1 : enT tb tl b = b + 1 := by
            have := (nI_eq (by omega) (by omega)).mp c_176
            omega
          refine qv_mk ⟨(upd (upd z1 18 (nI 4)) 20 (nI (tb b))), (hT1.z (z' := (upd z1 18 (nI 4))) (upd_ne (by decide))).z (upd_ne (by decide)), (zk.up (by omega) (by omega)).up (by omega) (by omega), ?_, ((hF.tr (FrX.st rfl (nscr (by omega)))).tr (FrX.st rfl (nscr (by omega))))⟩
          refine ⟨(upd_ne (by decide)).trans ((upd_ne (by decide)).trans h16), fun z => by omega, fun _ => ⟨?_, fun z => by omega, fun _ => ⟨⟨fun q => ?_, fun q => ?_⟩, fun q => ?_, fun q => ?_⟩, fun z => by omega⟩⟩
          · rw [upd_ne (by decide), upd_ne (by decide), h17, he]
          · rw [upd_ne (by decide), upd_eq]
          · exact absurd hg q
          · rw [upd_eq]
          · exact absurd e1 q
      · obtain rfl : τ = 0 := hτ.2 hg
        refine ex_aload_n (pc := 152) dX7_nextToken_152 rfl ?_
        refine ex_iload_n (pc := 153) dX7_nextToken_153 rfl ?_
        refine bx_if_eq_t (pc := 154) (tgt := 161) dX7_nextToken_154 (by decide) (rfl) ?_
        refine ex_iconst (pc := 161) (v := (nI 1)) dX7_nextToken_161 (by decide) ?_
        refine ex_put (pc := 162) dX7_nextToken_162 fp_X7_283 hT1.1.1 (Nat.le_of_ble_eq_true rfl) rfl rfl ?_
        rw [mo_18]
        refine ex_aload_n (pc := 165) dX7_nextToken_165 rfl ?_
        refine ex_aload_n (pc := 166) dX7_nextToken_166 rfl ?_
        refine ex_get (pc := 167) dX7_nextToken_167 fl_X7_280 (hT1.z (z' := upd z1 18 (nI 1)) (upd_ne (by decide))).1.1 rfl ?_
        refine ex_aload_n (pc := 170) dX7_nextToken_170 rfl ?_
        refine ex_get (pc := 171) dX7_nextToken_171 fl_X7_286 (hT1.z (z' := upd z1 18 (nI 1)) (upd_ne (by decide))).1.1 rfl ?_
        rw [upd_ne (by decide), upd_ne (by decide), h17, h16]
        refine ex_isub (pc := 174) dX7_nextToken_174 ?_
        rw [nI_sub (by omega)]
        refine ex_iconst (pc := 175) (v := (nI 1)) dX7_nextToken_175 (by decide) ?_
        refine ex_icmp_ne (pc := 176) (tgt := 191) dX7_nextToken_176 (by decide) (fun c_176 => ?_) (fun c_176 => ?_)
        · skip
          refine ex_iconst (pc := 191) (v := (nI 0)) dX7_nextToken_191 (by decide) ?_
          refine ex_put (pc := 192) dX7_nextToken_192 fp_X7_292 (hT1.z (z' := upd z1 18 (nI 1)) (upd_ne (by decide))).1.1 (Nat.le_of_ble_eq_true rfl) rfl rfl ?_
          rw [mo_20]
          refine ex_goto (pc := 195) (tgt := 339) dX7_nextToken_195 (by decide) ?_
          refine ex_vret dX7_nextToken_339 rfl ?_
          have e1 : ¬ enT tb tl b = b + 1 := fun z => c_176 ((nI_eq (by omega) (by omega)).mpr (by omega))
          refine qv_mk ⟨(upd (upd z1 18 (nI 1)) 20 (nI 0)), (hT1.z (z' := (upd z1 18 (nI 1))) (upd_ne (by decide))).z (upd_ne (by decide)), (zk.up (by omega) (by omega)).up (by omega) (by omega), ?_, ((hF.tr (FrX.st rfl (nscr (by omega)))).tr (FrX.st rfl (nscr (by omega))))⟩
          refine ⟨(upd_ne (by decide)).trans ((upd_ne (by decide)).trans h16), fun z => by omega, fun _ => ⟨?_, fun z => by omega, fun _ => ⟨⟨fun q => ?_, fun q => ?_⟩, fun q => ?_, fun q => ?_⟩, fun z => by omega⟩⟩
          · rw [upd_ne (by decide), upd_ne (by decide), h17, he]
          · exact absurd q hg
          · rw [upd_ne (by decide), upd_eq]
          · exact absurd q e1
          · rw [upd_eq]
        · skip
          refine ex_aload_n (pc := 179) dX7_nextToken_179 rfl ?_
          refine ex_get (pc := 180) dX7_nextToken_180 fl_X7_50 (hT1.z (z' := upd z1 18 (nI 1)) (upd_ne (by decide))).1.1 rfl ?_
          refine ex_aload_n (pc := 183) dX7_nextToken_183 rfl ?_
          refine ex_get (pc := 184) dX7_nextToken_184 fl_X7_286 (hT1.z (z' := upd z1 18 (nI 1)) (upd_ne (by decide))).1.1 rfl ?_
          rw [upd_ne (by decide), h16]
          refine ex_ildn (k := b) (pc := 187) dX7_nextToken_187 (hT1.z (z' := upd z1 18 (nI 1)) (upd_ne (by decide))).2.1 rfl (by omega) (by decide) ?_
          rw [(hB b).1]
          refine ex_goto (pc := 188) (tgt := 192) dX7_nextToken_188 (by decide) ?_
          refine ex_put (pc := 192) dX7_nextToken_192 fp_X7_292 (hT1.z (z' := upd z1 18 (nI 1)) (upd_ne (by decide))).1.1 (Nat.le_of_ble_eq_true rfl) rfl rfl ?_
          rw [mo_20]
          refine ex_goto (pc := 195) (tgt := 339) dX7_nextToken_195 (by decide) ?_
          refine ex_vret dX7_nextToken_339 rfl ?_
          have e1 : enT tb tl b = b + 1 := by
            have := (nI_eq (by omega) (by omega)).mp c_176
            omega
          refine qv_mk ⟨(upd (upd z1 18 (nI 1)) 20 (nI (tb b))), (hT1.z (z' := (upd z1 18 (nI 1))) (upd_ne (by decide))).z (upd_ne (by decide)), (zk.up (by omega) (by omega)).up (by omega) (by omega), ?_, ((hF.tr (FrX.st rfl (nscr (by omega)))).tr (FrX.st rfl (nscr (by omega))))⟩
          refine ⟨(upd_ne (by decide)).trans ((upd_ne (by decide)).trans h16), fun z => by omega, fun _ => ⟨?_, fun z => by omega, fun _ => ⟨⟨fun q => ?_, fun q => ?_⟩, fun q => ?_, fun q => ?_⟩, fun z => by omega⟩⟩
          · rw [upd_ne (by decide), upd_ne (by decide), h17, he]
          · exact absurd q hg
          · rw [upd_ne (by decide), upd_eq]
          · rw [upd_eq]
          · exact absurd e1 q
set_option maxHeartbeats 4000000 in
set_option maxRecDepth 100000 in
theorem c_M_nt_d {g : Gl} {d ks : Nat} {h : AH} {z s tf : Nat → Int32} {tb : Nat → Nat} {tl b : Nat} (hB : TpOk tf tb) (htl : tl ≤ 96) (hb : b < tl) (hb1 : srt tb tl b = 2) {τ : Nat} (hτ : (glT tb tl b → τ = 1) ∧ (¬ glT tb tl b → τ = 0)) (l2 : Option Value) (hd : 2 ≤ d) : ∀ (m q : Nat) (h1 : AH) (z1 : Nat → Int32), TpM g h1 z1 s tf tl → zK z z1 → z1 16 = nI b → z1 17 = nI q → FrX c75 g h h1 → b ≤ q → rnE tb tl 2 (tl - q) q = enT tb tl b → z1 19 = nI (nvl tb b (min (q - b) 4)) → q + m = tl → Ex g mX7_nextToken d 0 ks 214 [some (.ref (g.1 + 75)), some (.int (nI τ)), l2] [] h1 (qv (fun h' => ∃ z', TpM g h' z' s tf tl ∧ zK z z' ∧ tkZ tb tl b z' ∧ FrX c75 g h h')) := by
  intro m
  induction m with
  | zero =>
    intro q h1 z1 hT1 zk h16 h17 hF hbq hq h19 hm
    have hs : ¬ srt tb tl q = 2 := by rw [srt_hi (by omega)]; decide
    rw [rn_hi (by decide) _ hs] at hq
    refine ex_aload_n (pc := 214) dX7_nextToken_214 rfl ?_
    refine ex_aload_n (pc := 215) dX7_nextToken_215 rfl ?_
    refine ex_get (pc := 216) dX7_nextToken_216 fl_X7_280 hT1.1.1 rfl ?_
    rw [h17]
    refine cx_VL1i (pc := 219) dX7_nextToken_219 lk_X7_295 hT1.1.1 rfl (Nat.le_of_ble_eq_true rfl) (Nat.le_of_ble_eq_true rfl) (by omega) (c_M_isDigit hT1 hB (by omega) (i := q) (by omega)) (fun h_219 x_219 q_219 => ?_)
    obtain ⟨e_219, f_219⟩ := q_219
    rw [e_219, f_219]
    refine bx_if_eq_t (pc := 222) (tgt := 282) dX7_nextToken_222 (by decide) (by rw [decide_eq_false hs]; rfl) ?_
    have he : q = enT tb tl b := hq
    by_cases hg : glT tb tl b
    · obtain rfl : τ = 1 := hτ.1 hg
      refine ex_aload_n (pc := 282) dX7_nextToken_282 rfl ?_
      refine ex_iload_n (pc := 283) dX7_nextToken_283 rfl ?_
      refine bx_if_ne_t (pc := 284) (tgt := 300) dX7_nextToken_284 (by decide) (by decide) ?_
      refine ex_iconst (pc := 300) (v := (nI 4)) dX7_nextToken_300 (by decide) ?_
      refine ex_goto (pc := 301) (tgt := 305) dX7_nextToken_301 (by decide) ?_
      refine ex_put (pc := 305) dX7_nextToken_305 fp_X7_283 hT1.1.1 (Nat.le_of_ble_eq_true rfl) rfl rfl ?_
      rw [mo_18]
      refine ex_goto (pc := 308) (tgt := 339) dX7_nextToken_308 (by decide) ?_
      refine ex_vret dX7_nextToken_339 rfl ?_
      refine qv_mk ⟨(upd z1 18 (nI 4)), hT1.z (z' := (upd z1 18 (nI 4))) (upd_ne (by decide)), zk.up (by omega) (by omega), ?_, (hF.tr (FrX.st rfl (nscr (by omega))))⟩
      refine ⟨(upd_ne (by decide)).trans h16, fun z => by omega, fun _ => ⟨?_, fun z => by omega, fun z => by omega, fun _ => ⟨fun qq => ?_, fun qq => ?_⟩⟩⟩
      · rw [upd_ne (by decide), h17, he]
      · rw [upd_eq]
      · exact absurd hg qq.1
    · obtain rfl : τ = 0 := hτ.2 hg
      refine ex_aload_n (pc := 282) dX7_nextToken_282 rfl ?_
      refine ex_iload_n (pc := 283) dX7_nextToken_283 rfl ?_
      refine bx_if_ne_f (pc := 284) (tgt := 300) dX7_nextToken_284 (by decide) (rfl) ?_
      refine ex_aload_n (pc := 287) dX7_nextToken_287 rfl ?_
      refine ex_get (pc := 288) dX7_nextToken_288 fl_X7_280 hT1.1.1 rfl ?_
      refine ex_aload_n (pc := 291) dX7_nextToken_291 rfl ?_
      refine ex_get (pc := 292) dX7_nextToken_292 fl_X7_286 hT1.1.1 rfl ?_
      rw [h17, h16]
      refine ex_isub (pc := 295) dX7_nextToken_295 ?_
      rw [nI_sub (by omega)]
      refine ex_iconst (pc := 296) (v := (nI 4)) dX7_nextToken_296 (by decide) ?_
      refine ex_icmp_le (pc := 297) (tgt := 304) dX7_nextToken_297 (by decide) (fun c_297 => ?_) (fun c_297 => ?_)
      · skip
        refine ex_iconst (pc := 304) (v := (nI 2)) dX7_nextToken_304 (by decide) ?_
        refine ex_put (pc := 305) dX7_nextToken_305 fp_X7_283 hT1.1.1 (Nat.le_of_ble_eq_true rfl) rfl rfl ?_
        rw [mo_18]
        refine ex_goto (pc := 308) (tgt := 339) dX7_nextToken_308 (by decide) ?_
        refine ex_vret dX7_nextToken_339 rfl ?_
        refine qv_mk ⟨(upd z1 18 (nI 2)), hT1.z (z' := (upd z1 18 (nI 2))) (upd_ne (by decide)), zk.up (by omega) (by omega), ?_, (hF.tr (FrX.st rfl (nscr (by omega))))⟩
        refine ⟨(upd_ne (by decide)).trans h16, fun z => by omega, fun _ => ⟨?_, fun z => by omega, fun z => by omega, fun _ => ⟨fun qq => ?_, fun qq => ?_⟩⟩⟩
        · rw [upd_ne (by decide), h17, he]
        · exact absurd ((nI_leI (by omega) (by omega)).mp c_297) (by rcases qq with z | z; exact absurd z hg; omega)
        · refine ⟨upd_eq, ?_⟩
          rw [upd_ne (by decide), h19, he, show min (enT tb tl b - b) 4 = enT tb tl b - b by omega]
      · skip
        refine ex_iconst (pc := 300) (v := (nI 4)) dX7_nextToken_300 (by decide) ?_
        refine ex_goto (pc := 301) (tgt := 305) dX7_nextToken_301 (by decide) ?_
        refine ex_put (pc := 305) dX7_nextToken_305 fp_X7_283 hT1.1.1 (Nat.le_of_ble_eq_true rfl) rfl rfl ?_
        rw [mo_18]
        refine ex_goto (pc := 308) (tgt := 339) dX7_nextToken_308 (by decide) ?_
        refine ex_vret dX7_nextToken_339 rfl ?_
        refine qv_mk ⟨(upd z1 18 (nI 4)), hT1.z (z' := (upd z1 18 (nI 4))) (upd_ne (by decide)), zk.up (by omega) (by omega), ?_, (hF.tr (FrX.st rfl (nscr (by omega))))⟩
        refine ⟨(upd_ne (by decide)).trans h16, fun z => by omega, fun _ => ⟨?_, fun z => by omega, fun z => by omega, fun _ => ⟨fun qq => ?_, fun qq => ?_⟩⟩⟩
        · rw [upd_ne (by decide), h17, he]
        · rw [upd_eq]
        · exact absurd qq.2 (by have := Nat.not_le.mp (fun z => c_297 (nI_le z (by omega))); omega)
  | succ m ih =>
    intro q h1 z1 hT1 zk h16 h17 hF hbq hq h19 hm
    by_cases hs : srt tb tl q = 2
    · skip
      refine ex_aload_n (pc := 214) dX7_nextToken_214 rfl ?_
      refine ex_aload_n (pc := 215) dX7_nextToken_215 rfl ?_
      refine ex_get (pc := 216) dX7_nextToken_216 fl_X7_280 hT1.1.1 rfl ?_
      rw [h17]
      refine cx_VL1i (pc := 219) dX7_nextToken_219 lk_X7_295 hT1.1.1 rfl (Nat.le_of_ble_eq_true rfl) (Nat.le_of_ble_eq_true rfl) (by omega) (c_M_isDigit hT1 hB (by omega) (i := q) (by omega)) (fun h_219 x_219 q_219 => ?_)
      obtain ⟨e_219, f_219⟩ := q_219
      rw [e_219, f_219]
      refine bx_if_eq_f (pc := 222) (tgt := 282) dX7_nextToken_222 (by decide) (by rw [decide_eq_true hs]; decide) ?_
      refine ex_aload_n (pc := 225) dX7_nextToken_225 rfl ?_
      refine ex_aload_n (pc := 226) dX7_nextToken_226 rfl ?_
      refine ex_get (pc := 227) dX7_nextToken_227 fl_X7_280 hT1.1.1 rfl ?_
      refine ex_aload_n (pc := 230) dX7_nextToken_230 rfl ?_
      refine ex_get (pc := 231) dX7_nextToken_231 fl_X7_286 hT1.1.1 rfl ?_
      rw [h17, h16]
      refine ex_isub (pc := 234) dX7_nextToken_234 ?_
      rw [nI_sub (by omega)]
      refine ex_iconst (pc := 235) (v := (nI 4)) dX7_nextToken_235 (by decide) ?_
      refine ex_icmp_ge (pc := 236) (tgt := 262) dX7_nextToken_236 (by decide) (fun c_236 => ?_) (fun c_236 => ?_)
      · skip
        refine ex_aload_n (pc := 262) dX7_nextToken_262 rfl ?_
        refine ex_get (pc := 263) dX7_nextToken_263 fl_X7_298 hT1.1.1 rfl ?_
        rw [h19]
        refine ex_put (pc := 266) dX7_nextToken_266 fp_X7_298 hT1.1.1 (Nat.le_of_ble_eq_true rfl) rfl rfl ?_
        rw [mo_19]
        refine ex_aload_n (pc := 269) dX7_nextToken_269 rfl ?_
        refine ex_dup (pc := 270) dX7_nextToken_270 rfl ?_
        refine ex_get (pc := 271) dX7_nextToken_271 fl_X7_280 (hT1.z (upd_ne (by decide))).1.1 rfl ?_
        rw [upd_ne (by decide), h17]
        refine ex_iconst (pc := 274) (v := (nI 1)) dX7_nextToken_274 (by decide) ?_
        refine ex_iadd (pc := 275) dX7_nextToken_275 ?_
        refine ex_put (pc := 276) dX7_nextToken_276 fp_X7_280 (hT1.z (upd_ne (by decide))).1.1 (Nat.le_of_ble_eq_true rfl) rfl rfl ?_
        rw [mo_17, nI_add]
        refine ex_goto (pc := 279) (tgt := 214) dX7_nextToken_279 (by decide) ?_
        exact ih (q + 1) _ _ ((hT1.z (z' := upd z1 19 (nI (nvl tb b (min (q - b) 4)))) (upd_ne (by decide))).z (upd_ne (by decide))) ((zk.up (by omega) (by omega)).up (by omega) (by omega)) ((upd_ne (by decide)).trans ((upd_ne (by decide)).trans h16)) upd_eq ((hF.tr (FrX.st rfl (nscr (by omega)))).tr (FrX.st rfl (nscr (by omega)))) (by omega) (by rw [← hq, show tl - q = (tl - (q + 1)) + 1 by omega, rnE, if_pos hs]) (by rw [show min (q + 1 - b) 4 = min (q - b) 4 by have := (nI_leI (by omega) (by omega)).mp c_236; omega]; exact (upd_ne (by decide)).trans (upd_eq)) (by omega)
      · skip
        refine ex_bipush (pc := 239) (v := (nI 10)) dX7_nextToken_239 (by decide) ?_
        refine ex_aload_n (pc := 241) dX7_nextToken_241 rfl ?_
        refine ex_get (pc := 242) dX7_nextToken_242 fl_X7_298 hT1.1.1 rfl ?_
        rw [h19]
        refine ex_imul (pc := 245) dX7_nextToken_245 ?_
        refine ex_aload_n (pc := 246) dX7_nextToken_246 rfl ?_
        refine ex_get (pc := 247) dX7_nextToken_247 fl_X7_50 hT1.1.1 rfl ?_
        refine ex_aload_n (pc := 250) dX7_nextToken_250 rfl ?_
        refine ex_get (pc := 251) dX7_nextToken_251 fl_X7_280 hT1.1.1 rfl ?_
        rw [h17]
        refine ex_ildn (k := q) (pc := 254) dX7_nextToken_254 hT1.2.1 rfl (by have := srt_2.mp hs; omega) (by decide) ?_
        rw [(hB q).1]
        refine ex_iadd (pc := 255) dX7_nextToken_255 ?_
        refine ex_bipush (pc := 256) (v := (nI 48)) dX7_nextToken_256 (by decide) ?_
        refine ex_isub (pc := 258) dX7_nextToken_258 ?_
        refine ex_goto (pc := 259) (tgt := 266) dX7_nextToken_259 (by decide) ?_
        refine ex_put (pc := 266) dX7_nextToken_266 fp_X7_298 hT1.1.1 (Nat.le_of_ble_eq_true rfl) rfl rfl ?_
        rw [mo_19]
        refine ex_aload_n (pc := 269) dX7_nextToken_269 rfl ?_
        refine ex_dup (pc := 270) dX7_nextToken_270 rfl ?_
        refine ex_get (pc := 271) dX7_nextToken_271 fl_X7_280 (hT1.z (upd_ne (by decide))).1.1 rfl ?_
        rw [upd_ne (by decide), h17]
        refine ex_iconst (pc := 274) (v := (nI 1)) dX7_nextToken_274 (by decide) ?_
        refine ex_iadd (pc := 275) dX7_nextToken_275 ?_
        refine ex_put (pc := 276) dX7_nextToken_276 fp_X7_280 (hT1.z (upd_ne (by decide))).1.1 (Nat.le_of_ble_eq_true rfl) rfl rfl ?_
        rw [mo_17, nI_add]
        refine ex_goto (pc := 279) (tgt := 214) dX7_nextToken_279 (by decide) ?_
        have k4 : q - b < 4 := Nat.not_le.mp (fun z => c_236 (nI_le z (by omega)))
        have hd9 := srt_2.mp hs
        have ev : nI 10 * nI (nvl tb b (min (q - b) 4)) + nI (tb q) - nI 48 = nI (nvl tb b (min (q + 1 - b) 4)) := by
          rw [nI_mul, nI_add, nI_sub (by omega), show min (q - b) 4 = q - b by omega, show min (q + 1 - b) 4 = q - b + 1 by omega, nvl, show b + (q - b) = q by omega]
          congr 1
          omega
        rw [ev]
        exact ih (q + 1) _ _ ((hT1.z (z' := upd z1 19 (nI (nvl tb b (min (q + 1 - b) 4)))) (upd_ne (by decide))).z (upd_ne (by decide))) ((zk.up (by omega) (by omega)).up (by omega) (by omega)) ((upd_ne (by decide)).trans ((upd_ne (by decide)).trans h16)) upd_eq ((hF.tr (FrX.st rfl (nscr (by omega)))).tr (FrX.st rfl (nscr (by omega)))) (by omega) (by rw [← hq, show tl - q = (tl - (q + 1)) + 1 by omega, rnE, if_pos hs]) ((upd_ne (by decide)).trans upd_eq) (by omega)
    · rw [rn_hi (by decide) _ hs] at hq
      refine ex_aload_n (pc := 214) dX7_nextToken_214 rfl ?_
      refine ex_aload_n (pc := 215) dX7_nextToken_215 rfl ?_
      refine ex_get (pc := 216) dX7_nextToken_216 fl_X7_280 hT1.1.1 rfl ?_
      rw [h17]
      refine cx_VL1i (pc := 219) dX7_nextToken_219 lk_X7_295 hT1.1.1 rfl (Nat.le_of_ble_eq_true rfl) (Nat.le_of_ble_eq_true rfl) (by omega) (c_M_isDigit hT1 hB (by omega) (i := q) (by omega)) (fun h_219 x_219 q_219 => ?_)
      obtain ⟨e_219, f_219⟩ := q_219
      rw [e_219, f_219]
      refine bx_if_eq_t (pc := 222) (tgt := 282) dX7_nextToken_222 (by decide) (by rw [decide_eq_false hs]; rfl) ?_
      have he : q = enT tb tl b := hq
      by_cases hg : glT tb tl b
      · obtain rfl : τ = 1 := hτ.1 hg
        refine ex_aload_n (pc := 282) dX7_nextToken_282 rfl ?_
        refine ex_iload_n (pc := 283) dX7_nextToken_283 rfl ?_
        refine bx_if_ne_t (pc := 284) (tgt := 300) dX7_nextToken_284 (by decide) (by decide) ?_
        refine ex_iconst (pc := 300) (v := (nI 4)) dX7_nextToken_300 (by decide) ?_
        refine ex_goto (pc := 301) (tgt := 305) dX7_nextToken_301 (by decide) ?_
        refine ex_put (pc := 305) dX7_nextToken_305 fp_X7_283 hT1.1.1 (Nat.le_of_ble_eq_true rfl) rfl rfl ?_
        rw [mo_18]
        refine ex_goto (pc := 308) (tgt := 339) dX7_nextToken_308 (by decide) ?_
        refine ex_vret dX7_nextToken_339 rfl ?_
        refine qv_mk ⟨(upd z1 18 (nI 4)), hT1.z (z' := (upd z1 18 (nI 4))) (upd_ne (by decide)), zk.up (by omega) (by omega), ?_, (hF.tr (FrX.st rfl (nscr (by omega))))⟩
        refine ⟨(upd_ne (by decide)).trans h16, fun z => by omega, fun _ => ⟨?_, fun z => by omega, fun z => by omega, fun _ => ⟨fun qq => ?_, fun qq => ?_⟩⟩⟩
        · rw [upd_ne (by decide), h17, he]
        · rw [upd_eq]
        · exact absurd hg qq.1
      · obtain rfl : τ = 0 := hτ.2 hg
        refine ex_aload_n (pc := 282) dX7_nextToken_282 rfl ?_
        refine ex_iload_n (pc := 283) dX7_nextToken_283 rfl ?_
        refine bx_if_ne_f (pc := 284) (tgt := 300) dX7_nextToken_284 (by decide) (rfl) ?_
        refine ex_aload_n (pc := 287) dX7_nextToken_287 rfl ?_
        refine ex_get (pc := 288) dX7_nextToken_288 fl_X7_280 hT1.1.1 rfl ?_
        refine ex_aload_n (pc := 291) dX7_nextToken_291 rfl ?_
        refine ex_get (pc := 292) dX7_nextToken_292 fl_X7_286 hT1.1.1 rfl ?_
        rw [h17, h16]
        refine ex_isub (pc := 295) dX7_nextToken_295 ?_
        rw [nI_sub (by omega)]
        refine ex_iconst (pc := 296) (v := (nI 4)) dX7_nextToken_296 (by decide) ?_
        refine ex_icmp_le (pc := 297) (tgt := 304) dX7_nextToken_297 (by decide) (fun c_297 => ?_) (fun c_297 => ?_)
        · skip
          refine ex_iconst (pc := 304) (v := (nI 2)) dX7_nextToken_304 (by decide) ?_
          refine ex_put (pc := 305) dX7_nextToken_305 fp_X7_283 hT1.1.1 (Nat.le_of_ble_eq_true rfl) rfl rfl ?_
          rw [mo_18]
          refine ex_goto (pc := 308) (tgt := 339) dX7_nextToken_308 (by decide) ?_
          refine ex_vret dX7_nextToken_339 rfl ?_
          refine qv_mk ⟨(upd z1 18 (nI 2)), hT1.z (z' := (upd z1 18 (nI 2))) (upd_ne (by decide)), zk.up (by omega) (by omega), ?_, (hF.tr (FrX.st rfl (nscr (by omega))))⟩
          refine ⟨(upd_ne (by decide)).trans h16, fun z => by omega, fun _ => ⟨?_, fun z => by omega, fun z => by omega, fun _ => ⟨fun qq => ?_, fun qq => ?_⟩⟩⟩
          · rw [upd_ne (by decide), h17, he]
          · exact absurd ((nI_leI (by omega) (by omega)).mp c_297) (by rcases qq with z | z; exact absurd z hg; omega)
          · refine ⟨upd_eq, ?_⟩
            rw [upd_ne (by decide), h19, he, show min (enT tb tl b - b) 4 = enT tb tl b - b by omega]
        · skip
          refine ex_iconst (pc := 300) (v := (nI 4)) dX7_nextToken_300 (by decide) ?_
          refine ex_goto (pc := 301) (tgt := 305) dX7_nextToken_301 (by decide) ?_
          refine ex_put (pc := 305) dX7_nextToken_305 fp_X7_283 hT1.1.1 (Nat.le_of_ble_eq_true rfl) rfl rfl ?_
          rw [mo_18]
          refine ex_goto (pc := 308) (tgt := 339) dX7_nextToken_308 (by decide) ?_
          refine ex_vret dX7_nextToken_339 rfl ?_
          refine qv_mk ⟨(upd z1 18 (nI 4)), hT1.z (z' := (upd z1 18 (nI 4))) (upd_ne (by decide)), zk.up (by omega) (by omega), ?_, (hF.tr (FrX.st rfl (nscr (by omega))))⟩
          refine ⟨(upd_ne (by decide)).trans h16, fun z => by omega, fun _ => ⟨?_, fun z => by omega, fun z => by omega, fun _ => ⟨fun qq => ?_, fun qq => ?_⟩⟩⟩
          · rw [upd_ne (by decide), h17, he]
          · rw [upd_eq]
          · exact absurd qq.2 (by have := Nat.not_le.mp (fun z => c_297 (nI_le z (by omega))); omega)

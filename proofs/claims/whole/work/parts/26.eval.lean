/-! what a text gives: both sides run the same steps on a pile -/
def jnd (c x y : Int32) : Int32 := if c = nI 38 then bI (¬ x = 0 ∧ ¬ y = 0) else if c = nI 42 then x * y else if c = nI 43 then x + y else if c = nI 45 then x - y else if c = nI 47 then (if y = 0 then 0 else x / y) else if c = nI 60 then bI (x < y) else if c = nI 61 then bI (x = y) else if c = nI 62 then bI (y < x) else if c = nI 124 then bI (¬ x = 0 ∨ ¬ y = 0) else 0
def sgn9 (c : Int32) : Prop := c = nI 38 ∨ c = nI 42 ∨ c = nI 43 ∨ c = nI 45 ∨ c = nI 47 ∨ c = nI 60 ∨ c = nI 61 ∨ c = nI 62 ∨ c = nI 124
theorem div_m1 (x : Int32) : x / (-1) = -x := by
  apply Int32.toInt_inj.mp
  have e : (-1 : Int32).toInt = -1 := by decide
  rw [Int32.toInt_div, e, Int.tdiv_neg, Int.tdiv_one, Int32.toInt_neg]
set_option maxHeartbeats 4000000 in
set_option maxRecDepth 100000 in
theorem c_T_join {g : Gl} {d ks : Nat} {h : AH} (c x y : Int32) : Ex g mX5_join d 0 ks 0 [some (.int c), some (.int x), some (.int y)] [] h (qi (fun h' r => h' = h ∧ r = jnd c x y)) := by
  refine ex_iload_n (pc := 0) dX5_join_0 rfl ?_
  refine ex_lsw (pc := 1) (ks0 := [38, 42, 43, 45, 47, 60, 61, 62, 124]) (tg := fun j => [98, 153, 145, 149, 157, 112, 123, 134, 84].getD j 0) (td := 169) dX5_join_1 (by decide +kernel) (by decide +kernel) (by decide) (fun j_1 hj_1 c_1 => ?_) (fun c_1 => ?_)
  · rcases (show j_1 = 0 ∨ j_1 = 1 ∨ j_1 = 2 ∨ j_1 = 3 ∨ j_1 = 4 ∨ j_1 = 5 ∨ j_1 = 6 ∨ j_1 = 7 ∨ j_1 = 8 by simp only [List.length_cons, List.length_nil] at hj_1; omega) with rfl | rfl | rfl | rfl | rfl | rfl | rfl | rfl | rfl
    · show Ex _ _ _ _ _ 98 _ _ _ _
      have c_1 : _ = nI 38 := c_1
      refine ex_iload_n (pc := 98) dX5_join_98 rfl ?_
      refine ex_if_eq (pc := 99) (tgt := 110) dX5_join_99 (by decide) (fun c_99 => ?_) (fun c_99 => ?_)
      · skip
        refine ex_iconst (pc := 110) (v := 0) dX5_join_110 (by decide) ?_
        refine ex_ret dX5_join_111 rfl ?_
        refine qi_mk ⟨rfl, ?_⟩
        first | (simp_all [jnd, bI, nI_eq, nI_0]; done) | (simp_all [jnd, bI, nI_eq, nI_0]; grind) | grind [jnd, bI]
      · skip
        refine ex_iload_n (pc := 102) dX5_join_102 rfl ?_
        refine ex_if_eq (pc := 103) (tgt := 110) dX5_join_103 (by decide) (fun c_103 => ?_) (fun c_103 => ?_)
        · skip
          refine ex_iconst (pc := 110) (v := 0) dX5_join_110 (by decide) ?_
          refine ex_ret dX5_join_111 rfl ?_
          refine qi_mk ⟨rfl, ?_⟩
          first | (simp_all [jnd, bI, nI_eq, nI_0]; done) | (simp_all [jnd, bI, nI_eq, nI_0]; grind) | grind [jnd, bI]
        · skip
          refine ex_iconst (pc := 106) (v := 1) dX5_join_106 (by decide) ?_
          refine ex_goto (pc := 107) (tgt := 111) dX5_join_107 (by decide) ?_
          refine ex_ret dX5_join_111 rfl ?_
          refine qi_mk ⟨rfl, ?_⟩
          first | (simp_all [jnd, bI, nI_eq, nI_0]; done) | (simp_all [jnd, bI, nI_eq, nI_0]; grind) | grind [jnd, bI]
    · show Ex _ _ _ _ _ 153 _ _ _ _
      have c_1 : _ = nI 42 := c_1
      refine ex_iload_n (pc := 153) dX5_join_153 rfl ?_
      refine ex_iload_n (pc := 154) dX5_join_154 rfl ?_
      refine ex_imul (pc := 155) dX5_join_155 ?_
      refine ex_ret dX5_join_156 rfl ?_
      refine qi_mk ⟨rfl, ?_⟩
      first | (simp_all [jnd, bI, nI_eq, nI_0]; done) | (simp_all [jnd, bI, nI_eq, nI_0]; grind) | grind [jnd, bI]
    · show Ex _ _ _ _ _ 145 _ _ _ _
      have c_1 : _ = nI 43 := c_1
      refine ex_iload_n (pc := 145) dX5_join_145 rfl ?_
      refine ex_iload_n (pc := 146) dX5_join_146 rfl ?_
      refine ex_iadd (pc := 147) dX5_join_147 ?_
      refine ex_ret dX5_join_148 rfl ?_
      refine qi_mk ⟨rfl, ?_⟩
      first | (simp_all [jnd, bI, nI_eq, nI_0]; done) | (simp_all [jnd, bI, nI_eq, nI_0]; grind) | grind [jnd, bI]
    · show Ex _ _ _ _ _ 149 _ _ _ _
      have c_1 : _ = nI 45 := c_1
      refine ex_iload_n (pc := 149) dX5_join_149 rfl ?_
      refine ex_iload_n (pc := 150) dX5_join_150 rfl ?_
      refine ex_isub (pc := 151) dX5_join_151 ?_
      refine ex_ret dX5_join_152 rfl ?_
      refine qi_mk ⟨rfl, ?_⟩
      first | (simp_all [jnd, bI, nI_eq, nI_0]; done) | (simp_all [jnd, bI, nI_eq, nI_0]; grind) | grind [jnd, bI]
    · show Ex _ _ _ _ _ 157 _ _ _ _
      have c_1 : _ = nI 47 := c_1
      refine ex_iload_n (pc := 157) dX5_join_157 rfl ?_
      refine ex_if_ne (pc := 158) (tgt := 165) dX5_join_158 (by decide) (fun c_158 => ?_) (fun c_158 => ?_)
      · skip
        refine ex_iload_n (pc := 165) dX5_join_165 rfl ?_
        refine ex_iload_n (pc := 166) dX5_join_166 rfl ?_
        refine ex_idiv (pc := 167) dX5_join_167 c_158 ?_
        refine ex_ret dX5_join_168 rfl ?_
        refine qi_mk ⟨rfl, ?_⟩
        first | (simp_all [jnd, bI, nI_eq, nI_0]; done) | (simp_all [jnd, bI, nI_eq, nI_0]; grind) | grind [jnd, bI]
      · skip
        refine ex_iconst (pc := 161) (v := 0) dX5_join_161 (by decide) ?_
        refine ex_goto (pc := 162) (tgt := 168) dX5_join_162 (by decide) ?_
        refine ex_ret dX5_join_168 rfl ?_
        refine qi_mk ⟨rfl, ?_⟩
        first | (simp_all [jnd, bI, nI_eq, nI_0]; done) | (simp_all [jnd, bI, nI_eq, nI_0]; grind) | grind [jnd, bI]
    · show Ex _ _ _ _ _ 112 _ _ _ _
      have c_1 : _ = nI 60 := c_1
      refine ex_iload_n (pc := 112) dX5_join_112 rfl ?_
      refine ex_iload_n (pc := 113) dX5_join_113 rfl ?_
      refine ex_icmp_ge (pc := 114) (tgt := 121) dX5_join_114 (by decide) (fun c_114 => ?_) (fun c_114 => ?_)
      · skip
        refine ex_iconst (pc := 121) (v := 0) dX5_join_121 (by decide) ?_
        refine ex_ret dX5_join_122 rfl ?_
        refine qi_mk ⟨rfl, ?_⟩
        first | (simp_all [jnd, bI, nI_eq, nI_0]; done) | (simp_all [jnd, bI, nI_eq, nI_0]; grind) | grind [jnd, bI]
      · skip
        refine ex_iconst (pc := 117) (v := 1) dX5_join_117 (by decide) ?_
        refine ex_goto (pc := 118) (tgt := 122) dX5_join_118 (by decide) ?_
        refine ex_ret dX5_join_122 rfl ?_
        refine qi_mk ⟨rfl, ?_⟩
        first | (simp_all [jnd, bI, nI_eq, nI_0]; done) | (simp_all [jnd, bI, nI_eq, nI_0]; grind) | grind [jnd, bI]
    · show Ex _ _ _ _ _ 123 _ _ _ _
      have c_1 : _ = nI 61 := c_1
      refine ex_iload_n (pc := 123) dX5_join_123 rfl ?_
      refine ex_iload_n (pc := 124) dX5_join_124 rfl ?_
      refine ex_icmp_ne (pc := 125) (tgt := 132) dX5_join_125 (by decide) (fun c_125 => ?_) (fun c_125 => ?_)
      · skip
        refine ex_iconst (pc := 132) (v := 0) dX5_join_132 (by decide) ?_
        refine ex_ret dX5_join_133 rfl ?_
        refine qi_mk ⟨rfl, ?_⟩
        first | (simp_all [jnd, bI, nI_eq, nI_0]; done) | (simp_all [jnd, bI, nI_eq, nI_0]; grind) | grind [jnd, bI]
      · skip
        refine ex_iconst (pc := 128) (v := 1) dX5_join_128 (by decide) ?_
        refine ex_goto (pc := 129) (tgt := 133) dX5_join_129 (by decide) ?_
        refine ex_ret dX5_join_133 rfl ?_
        refine qi_mk ⟨rfl, ?_⟩
        first | (simp_all [jnd, bI, nI_eq, nI_0]; done) | (simp_all [jnd, bI, nI_eq, nI_0]; grind) | grind [jnd, bI]
    · show Ex _ _ _ _ _ 134 _ _ _ _
      have c_1 : _ = nI 62 := c_1
      refine ex_iload_n (pc := 134) dX5_join_134 rfl ?_
      refine ex_iload_n (pc := 135) dX5_join_135 rfl ?_
      refine ex_icmp_le (pc := 136) (tgt := 143) dX5_join_136 (by decide) (fun c_136 => ?_) (fun c_136 => ?_)
      · skip
        refine ex_iconst (pc := 143) (v := 0) dX5_join_143 (by decide) ?_
        refine ex_ret dX5_join_144 rfl ?_
        refine qi_mk ⟨rfl, ?_⟩
        first | (simp_all [jnd, bI, nI_eq, nI_0]; done) | (simp_all [jnd, bI, nI_eq, nI_0]; grind) | grind [jnd, bI]
      · skip
        refine ex_iconst (pc := 139) (v := 1) dX5_join_139 (by decide) ?_
        refine ex_goto (pc := 140) (tgt := 144) dX5_join_140 (by decide) ?_
        refine ex_ret dX5_join_144 rfl ?_
        refine qi_mk ⟨rfl, ?_⟩
        first | (simp_all [jnd, bI, nI_eq, nI_0]; done) | (simp_all [jnd, bI, nI_eq, nI_0]; grind) | grind [jnd, bI]
    · show Ex _ _ _ _ _ 84 _ _ _ _
      have c_1 : _ = nI 124 := c_1
      refine ex_iload_n (pc := 84) dX5_join_84 rfl ?_
      refine ex_if_ne (pc := 85) (tgt := 92) dX5_join_85 (by decide) (fun c_85 => ?_) (fun c_85 => ?_)
      · skip
        refine ex_iconst (pc := 92) (v := 1) dX5_join_92 (by decide) ?_
        refine ex_goto (pc := 93) (tgt := 97) dX5_join_93 (by decide) ?_
        refine ex_ret dX5_join_97 rfl ?_
        refine qi_mk ⟨rfl, ?_⟩
        first | (simp_all [jnd, bI, nI_eq, nI_0]; done) | (simp_all [jnd, bI, nI_eq, nI_0]; grind) | grind [jnd, bI]
      · skip
        refine ex_iload_n (pc := 88) dX5_join_88 rfl ?_
        refine ex_if_eq (pc := 89) (tgt := 96) dX5_join_89 (by decide) (fun c_89 => ?_) (fun c_89 => ?_)
        · skip
          refine ex_iconst (pc := 96) (v := 0) dX5_join_96 (by decide) ?_
          refine ex_ret dX5_join_97 rfl ?_
          refine qi_mk ⟨rfl, ?_⟩
          first | (simp_all [jnd, bI, nI_eq, nI_0]; done) | (simp_all [jnd, bI, nI_eq, nI_0]; grind) | grind [jnd, bI]
        · skip
          refine ex_iconst (pc := 92) (v := 1) dX5_join_92 (by decide) ?_
          refine ex_goto (pc := 93) (tgt := 97) dX5_join_93 (by decide) ?_
          refine ex_ret dX5_join_97 rfl ?_
          refine qi_mk ⟨rfl, ?_⟩
          first | (simp_all [jnd, bI, nI_eq, nI_0]; done) | (simp_all [jnd, bI, nI_eq, nI_0]; grind) | grind [jnd, bI]
  · skip
    have c_1_38 : ¬ _ = nI 38 := c_1 0 (by decide)
    have c_1_42 : ¬ _ = nI 42 := c_1 1 (by decide)
    have c_1_43 : ¬ _ = nI 43 := c_1 2 (by decide)
    have c_1_45 : ¬ _ = nI 45 := c_1 3 (by decide)
    have c_1_47 : ¬ _ = nI 47 := c_1 4 (by decide)
    have c_1_60 : ¬ _ = nI 60 := c_1 5 (by decide)
    have c_1_61 : ¬ _ = nI 61 := c_1 6 (by decide)
    have c_1_62 : ¬ _ = nI 62 := c_1 7 (by decide)
    have c_1_124 : ¬ _ = nI 124 := c_1 8 (by decide)
    refine ex_iconst (pc := 169) (v := 0) dX5_join_169 (by decide) ?_
    refine ex_ret dX5_join_170 rfl ?_
    refine qi_mk ⟨rfl, ?_⟩
    first | (simp_all [jnd, bI, nI_eq, nI_0]; done) | (simp_all [jnd, bI, nI_eq, nI_0]; grind) | grind [jnd, bI]
set_option maxHeartbeats 4000000 in
set_option maxRecDepth 100000 in
theorem c_M_joined {g : Gl} {d ks : Nat} {h : AH} (c x y : Int32) (hc : sgn9 c) : Ex g mX7_joined d 0 ks 0 [some (.int c), some (.int x), some (.int y)] [] h (qi (fun h' r => h' = h ∧ r = jnd c x y)) := by
  refine ex_iload_n (pc := 0) dX7_joined_0 rfl ?_
  refine ex_tsw (pc := 1) (n := 25) (l0 := 38) (tg := fun j => [183, 197, 197, 197, 124, 116, 197, 120, 197, 128, 197, 197, 197, 197, 197, 197, 197, 197, 197, 197, 197, 197, 150, 172, 161].getD j 0) (td := 197) dX7_joined_1 rfl rfl (by decide +kernel) (by decide) (by decide) (fun j_1 hj_1 c_1 => ?_) (fun c_1 => ?_)
  · rcases (show j_1 = 0 ∨ j_1 = 1 ∨ j_1 = 2 ∨ j_1 = 3 ∨ j_1 = 4 ∨ j_1 = 5 ∨ j_1 = 6 ∨ j_1 = 7 ∨ j_1 = 8 ∨ j_1 = 9 ∨ j_1 = 10 ∨ j_1 = 11 ∨ j_1 = 12 ∨ j_1 = 13 ∨ j_1 = 14 ∨ j_1 = 15 ∨ j_1 = 16 ∨ j_1 = 17 ∨ j_1 = 18 ∨ j_1 = 19 ∨ j_1 = 20 ∨ j_1 = 21 ∨ j_1 = 22 ∨ j_1 = 23 ∨ j_1 = 24 by omega) with rfl | rfl | rfl | rfl | rfl | rfl | rfl | rfl | rfl | rfl | rfl | rfl | rfl | rfl | rfl | rfl | rfl | rfl | rfl | rfl | rfl | rfl | rfl | rfl | rfl
    · show Ex _ _ _ _ _ 183 _ _ _ _
      have c_1 : _ = nI 38 := c_1
      refine ex_iload_n (pc := 183) dX7_joined_183 rfl ?_
      refine ex_if_eq (pc := 184) (tgt := 195) dX7_joined_184 (by decide) (fun c_184 => ?_) (fun c_184 => ?_)
      · skip
        refine ex_iconst (pc := 195) (v := 0) dX7_joined_195 (by decide) ?_
        refine ex_ret dX7_joined_196 rfl ?_
        refine qi_mk ⟨rfl, ?_⟩
        first | (simp_all [jnd, bI, nI_eq, nI_0]; done) | (simp_all [jnd, bI, nI_eq, nI_0, div_m1]; done) | (simp_all [jnd, bI, nI_eq, nI_0, sgn9]; done) | (simp_all [jnd, bI, nI_eq, nI_0, sgn9]; grind) | grind [jnd, bI, sgn9]
      · skip
        refine ex_iload_n (pc := 187) dX7_joined_187 rfl ?_
        refine ex_if_eq (pc := 188) (tgt := 195) dX7_joined_188 (by decide) (fun c_188 => ?_) (fun c_188 => ?_)
        · skip
          refine ex_iconst (pc := 195) (v := 0) dX7_joined_195 (by decide) ?_
          refine ex_ret dX7_joined_196 rfl ?_
          refine qi_mk ⟨rfl, ?_⟩
          first | (simp_all [jnd, bI, nI_eq, nI_0]; done) | (simp_all [jnd, bI, nI_eq, nI_0, div_m1]; done) | (simp_all [jnd, bI, nI_eq, nI_0, sgn9]; done) | (simp_all [jnd, bI, nI_eq, nI_0, sgn9]; grind) | grind [jnd, bI, sgn9]
        · skip
          refine ex_iconst (pc := 191) (v := 1) dX7_joined_191 (by decide) ?_
          refine ex_goto (pc := 192) (tgt := 196) dX7_joined_192 (by decide) ?_
          refine ex_ret dX7_joined_196 rfl ?_
          refine qi_mk ⟨rfl, ?_⟩
          first | (simp_all [jnd, bI, nI_eq, nI_0]; done) | (simp_all [jnd, bI, nI_eq, nI_0, div_m1]; done) | (simp_all [jnd, bI, nI_eq, nI_0, sgn9]; done) | (simp_all [jnd, bI, nI_eq, nI_0, sgn9]; grind) | grind [jnd, bI, sgn9]
    · show Ex _ _ _ _ _ 197 _ _ _ _
      have c_1 : _ = nI 39 := c_1
      refine ex_iload_n (pc := 197) dX7_joined_197 rfl ?_
      refine ex_if_ne (pc := 198) (tgt := 205) dX7_joined_198 (by decide) (fun c_198 => ?_) (fun c_198 => ?_)
      · skip
        refine ex_iconst (pc := 205) (v := 1) dX7_joined_205 (by decide) ?_
        refine ex_goto (pc := 206) (tgt := 210) dX7_joined_206 (by decide) ?_
        refine ex_ret dX7_joined_210 rfl ?_
        refine qi_mk ⟨rfl, ?_⟩
        first | (simp_all [jnd, bI, nI_eq, nI_0]; done) | (simp_all [jnd, bI, nI_eq, nI_0, div_m1]; done) | (simp_all [jnd, bI, nI_eq, nI_0, sgn9]; done) | (simp_all [jnd, bI, nI_eq, nI_0, sgn9]; grind) | grind [jnd, bI, sgn9]
      · skip
        refine ex_iload_n (pc := 201) dX7_joined_201 rfl ?_
        refine ex_if_eq (pc := 202) (tgt := 209) dX7_joined_202 (by decide) (fun c_202 => ?_) (fun c_202 => ?_)
        · skip
          refine ex_iconst (pc := 209) (v := 0) dX7_joined_209 (by decide) ?_
          refine ex_ret dX7_joined_210 rfl ?_
          refine qi_mk ⟨rfl, ?_⟩
          first | (simp_all [jnd, bI, nI_eq, nI_0]; done) | (simp_all [jnd, bI, nI_eq, nI_0, div_m1]; done) | (simp_all [jnd, bI, nI_eq, nI_0, sgn9]; done) | (simp_all [jnd, bI, nI_eq, nI_0, sgn9]; grind) | grind [jnd, bI, sgn9]
        · skip
          refine ex_iconst (pc := 205) (v := 1) dX7_joined_205 (by decide) ?_
          refine ex_goto (pc := 206) (tgt := 210) dX7_joined_206 (by decide) ?_
          refine ex_ret dX7_joined_210 rfl ?_
          refine qi_mk ⟨rfl, ?_⟩
          first | (simp_all [jnd, bI, nI_eq, nI_0]; done) | (simp_all [jnd, bI, nI_eq, nI_0, div_m1]; done) | (simp_all [jnd, bI, nI_eq, nI_0, sgn9]; done) | (simp_all [jnd, bI, nI_eq, nI_0, sgn9]; grind) | grind [jnd, bI, sgn9]
    · show Ex _ _ _ _ _ 197 _ _ _ _
      have c_1 : _ = nI 40 := c_1
      refine ex_iload_n (pc := 197) dX7_joined_197 rfl ?_
      refine ex_if_ne (pc := 198) (tgt := 205) dX7_joined_198 (by decide) (fun c_198 => ?_) (fun c_198 => ?_)
      · skip
        refine ex_iconst (pc := 205) (v := 1) dX7_joined_205 (by decide) ?_
        refine ex_goto (pc := 206) (tgt := 210) dX7_joined_206 (by decide) ?_
        refine ex_ret dX7_joined_210 rfl ?_
        refine qi_mk ⟨rfl, ?_⟩
        first | (simp_all [jnd, bI, nI_eq, nI_0]; done) | (simp_all [jnd, bI, nI_eq, nI_0, div_m1]; done) | (simp_all [jnd, bI, nI_eq, nI_0, sgn9]; done) | (simp_all [jnd, bI, nI_eq, nI_0, sgn9]; grind) | grind [jnd, bI, sgn9]
      · skip
        refine ex_iload_n (pc := 201) dX7_joined_201 rfl ?_
        refine ex_if_eq (pc := 202) (tgt := 209) dX7_joined_202 (by decide) (fun c_202 => ?_) (fun c_202 => ?_)
        · skip
          refine ex_iconst (pc := 209) (v := 0) dX7_joined_209 (by decide) ?_
          refine ex_ret dX7_joined_210 rfl ?_
          refine qi_mk ⟨rfl, ?_⟩
          first | (simp_all [jnd, bI, nI_eq, nI_0]; done) | (simp_all [jnd, bI, nI_eq, nI_0, div_m1]; done) | (simp_all [jnd, bI, nI_eq, nI_0, sgn9]; done) | (simp_all [jnd, bI, nI_eq, nI_0, sgn9]; grind) | grind [jnd, bI, sgn9]
        · skip
          refine ex_iconst (pc := 205) (v := 1) dX7_joined_205 (by decide) ?_
          refine ex_goto (pc := 206) (tgt := 210) dX7_joined_206 (by decide) ?_
          refine ex_ret dX7_joined_210 rfl ?_
          refine qi_mk ⟨rfl, ?_⟩
          first | (simp_all [jnd, bI, nI_eq, nI_0]; done) | (simp_all [jnd, bI, nI_eq, nI_0, div_m1]; done) | (simp_all [jnd, bI, nI_eq, nI_0, sgn9]; done) | (simp_all [jnd, bI, nI_eq, nI_0, sgn9]; grind) | grind [jnd, bI, sgn9]
    · show Ex _ _ _ _ _ 197 _ _ _ _
      have c_1 : _ = nI 41 := c_1
      refine ex_iload_n (pc := 197) dX7_joined_197 rfl ?_
      refine ex_if_ne (pc := 198) (tgt := 205) dX7_joined_198 (by decide) (fun c_198 => ?_) (fun c_198 => ?_)
      · skip
        refine ex_iconst (pc := 205) (v := 1) dX7_joined_205 (by decide) ?_
        refine ex_goto (pc := 206) (tgt := 210) dX7_joined_206 (by decide) ?_
        refine ex_ret dX7_joined_210 rfl ?_
        refine qi_mk ⟨rfl, ?_⟩
        first | (simp_all [jnd, bI, nI_eq, nI_0]; done) | (simp_all [jnd, bI, nI_eq, nI_0, div_m1]; done) | (simp_all [jnd, bI, nI_eq, nI_0, sgn9]; done) | (simp_all [jnd, bI, nI_eq, nI_0, sgn9]; grind) | grind [jnd, bI, sgn9]
      · skip
        refine ex_iload_n (pc := 201) dX7_joined_201 rfl ?_
        refine ex_if_eq (pc := 202) (tgt := 209) dX7_joined_202 (by decide) (fun c_202 => ?_) (fun c_202 => ?_)
        · skip
          refine ex_iconst (pc := 209) (v := 0) dX7_joined_209 (by decide) ?_
          refine ex_ret dX7_joined_210 rfl ?_
          refine qi_mk ⟨rfl, ?_⟩
          first | (simp_all [jnd, bI, nI_eq, nI_0]; done) | (simp_all [jnd, bI, nI_eq, nI_0, div_m1]; done) | (simp_all [jnd, bI, nI_eq, nI_0, sgn9]; done) | (simp_all [jnd, bI, nI_eq, nI_0, sgn9]; grind) | grind [jnd, bI, sgn9]
        · skip
          refine ex_iconst (pc := 205) (v := 1) dX7_joined_205 (by decide) ?_
          refine ex_goto (pc := 206) (tgt := 210) dX7_joined_206 (by decide) ?_
          refine ex_ret dX7_joined_210 rfl ?_
          refine qi_mk ⟨rfl, ?_⟩
          first | (simp_all [jnd, bI, nI_eq, nI_0]; done) | (simp_all [jnd, bI, nI_eq, nI_0, div_m1]; done) | (simp_all [jnd, bI, nI_eq, nI_0, sgn9]; done) | (simp_all [jnd, bI, nI_eq, nI_0, sgn9]; grind) | grind [jnd, bI, sgn9]
    · show Ex _ _ _ _ _ 124 _ _ _ _
      have c_1 : _ = nI 42 := c_1
      refine ex_iload_n (pc := 124) dX7_joined_124 rfl ?_
      refine ex_iload_n (pc := 125) dX7_joined_125 rfl ?_
      refine ex_imul (pc := 126) dX7_joined_126 ?_
      refine ex_ret dX7_joined_127 rfl ?_
      refine qi_mk ⟨rfl, ?_⟩
      first | (simp_all [jnd, bI, nI_eq, nI_0]; done) | (simp_all [jnd, bI, nI_eq, nI_0, div_m1]; done) | (simp_all [jnd, bI, nI_eq, nI_0, sgn9]; done) | (simp_all [jnd, bI, nI_eq, nI_0, sgn9]; grind) | grind [jnd, bI, sgn9]
    · show Ex _ _ _ _ _ 116 _ _ _ _
      have c_1 : _ = nI 43 := c_1
      refine ex_iload_n (pc := 116) dX7_joined_116 rfl ?_
      refine ex_iload_n (pc := 117) dX7_joined_117 rfl ?_
      refine ex_iadd (pc := 118) dX7_joined_118 ?_
      refine ex_ret dX7_joined_119 rfl ?_
      refine qi_mk ⟨rfl, ?_⟩
      first | (simp_all [jnd, bI, nI_eq, nI_0]; done) | (simp_all [jnd, bI, nI_eq, nI_0, div_m1]; done) | (simp_all [jnd, bI, nI_eq, nI_0, sgn9]; done) | (simp_all [jnd, bI, nI_eq, nI_0, sgn9]; grind) | grind [jnd, bI, sgn9]
    · show Ex _ _ _ _ _ 197 _ _ _ _
      have c_1 : _ = nI 44 := c_1
      refine ex_iload_n (pc := 197) dX7_joined_197 rfl ?_
      refine ex_if_ne (pc := 198) (tgt := 205) dX7_joined_198 (by decide) (fun c_198 => ?_) (fun c_198 => ?_)
      · skip
        refine ex_iconst (pc := 205) (v := 1) dX7_joined_205 (by decide) ?_
        refine ex_goto (pc := 206) (tgt := 210) dX7_joined_206 (by decide) ?_
        refine ex_ret dX7_joined_210 rfl ?_
        refine qi_mk ⟨rfl, ?_⟩
        first | (simp_all [jnd, bI, nI_eq, nI_0]; done) | (simp_all [jnd, bI, nI_eq, nI_0, div_m1]; done) | (simp_all [jnd, bI, nI_eq, nI_0, sgn9]; done) | (simp_all [jnd, bI, nI_eq, nI_0, sgn9]; grind) | grind [jnd, bI, sgn9]
      · skip
        refine ex_iload_n (pc := 201) dX7_joined_201 rfl ?_
        refine ex_if_eq (pc := 202) (tgt := 209) dX7_joined_202 (by decide) (fun c_202 => ?_) (fun c_202 => ?_)
        · skip
          refine ex_iconst (pc := 209) (v := 0) dX7_joined_209 (by decide) ?_
          refine ex_ret dX7_joined_210 rfl ?_
          refine qi_mk ⟨rfl, ?_⟩
          first | (simp_all [jnd, bI, nI_eq, nI_0]; done) | (simp_all [jnd, bI, nI_eq, nI_0, div_m1]; done) | (simp_all [jnd, bI, nI_eq, nI_0, sgn9]; done) | (simp_all [jnd, bI, nI_eq, nI_0, sgn9]; grind) | grind [jnd, bI, sgn9]
        · skip
          refine ex_iconst (pc := 205) (v := 1) dX7_joined_205 (by decide) ?_
          refine ex_goto (pc := 206) (tgt := 210) dX7_joined_206 (by decide) ?_
          refine ex_ret dX7_joined_210 rfl ?_
          refine qi_mk ⟨rfl, ?_⟩
          first | (simp_all [jnd, bI, nI_eq, nI_0]; done) | (simp_all [jnd, bI, nI_eq, nI_0, div_m1]; done) | (simp_all [jnd, bI, nI_eq, nI_0, sgn9]; done) | (simp_all [jnd, bI, nI_eq, nI_0, sgn9]; grind) | grind [jnd, bI, sgn9]
    · show Ex _ _ _ _ _ 120 _ _ _ _
      have c_1 : _ = nI 45 := c_1
      refine ex_iload_n (pc := 120) dX7_joined_120 rfl ?_
      refine ex_iload_n (pc := 121) dX7_joined_121 rfl ?_
      refine ex_isub (pc := 122) dX7_joined_122 ?_
      refine ex_ret dX7_joined_123 rfl ?_
      refine qi_mk ⟨rfl, ?_⟩
      first | (simp_all [jnd, bI, nI_eq, nI_0]; done) | (simp_all [jnd, bI, nI_eq, nI_0, div_m1]; done) | (simp_all [jnd, bI, nI_eq, nI_0, sgn9]; done) | (simp_all [jnd, bI, nI_eq, nI_0, sgn9]; grind) | grind [jnd, bI, sgn9]
    · show Ex _ _ _ _ _ 197 _ _ _ _
      have c_1 : _ = nI 46 := c_1
      refine ex_iload_n (pc := 197) dX7_joined_197 rfl ?_
      refine ex_if_ne (pc := 198) (tgt := 205) dX7_joined_198 (by decide) (fun c_198 => ?_) (fun c_198 => ?_)
      · skip
        refine ex_iconst (pc := 205) (v := 1) dX7_joined_205 (by decide) ?_
        refine ex_goto (pc := 206) (tgt := 210) dX7_joined_206 (by decide) ?_
        refine ex_ret dX7_joined_210 rfl ?_
        refine qi_mk ⟨rfl, ?_⟩
        first | (simp_all [jnd, bI, nI_eq, nI_0]; done) | (simp_all [jnd, bI, nI_eq, nI_0, div_m1]; done) | (simp_all [jnd, bI, nI_eq, nI_0, sgn9]; done) | (simp_all [jnd, bI, nI_eq, nI_0, sgn9]; grind) | grind [jnd, bI, sgn9]
      · skip
        refine ex_iload_n (pc := 201) dX7_joined_201 rfl ?_
        refine ex_if_eq (pc := 202) (tgt := 209) dX7_joined_202 (by decide) (fun c_202 => ?_) (fun c_202 => ?_)
        · skip
          refine ex_iconst (pc := 209) (v := 0) dX7_joined_209 (by decide) ?_
          refine ex_ret dX7_joined_210 rfl ?_
          refine qi_mk ⟨rfl, ?_⟩
          first | (simp_all [jnd, bI, nI_eq, nI_0]; done) | (simp_all [jnd, bI, nI_eq, nI_0, div_m1]; done) | (simp_all [jnd, bI, nI_eq, nI_0, sgn9]; done) | (simp_all [jnd, bI, nI_eq, nI_0, sgn9]; grind) | grind [jnd, bI, sgn9]
        · skip
          refine ex_iconst (pc := 205) (v := 1) dX7_joined_205 (by decide) ?_
          refine ex_goto (pc := 206) (tgt := 210) dX7_joined_206 (by decide) ?_
          refine ex_ret dX7_joined_210 rfl ?_
          refine qi_mk ⟨rfl, ?_⟩
          first | (simp_all [jnd, bI, nI_eq, nI_0]; done) | (simp_all [jnd, bI, nI_eq, nI_0, div_m1]; done) | (simp_all [jnd, bI, nI_eq, nI_0, sgn9]; done) | (simp_all [jnd, bI, nI_eq, nI_0, sgn9]; grind) | grind [jnd, bI, sgn9]
    · show Ex _ _ _ _ _ 128 _ _ _ _
      have c_1 : _ = nI 47 := c_1
      refine ex_iload_n (pc := 128) dX7_joined_128 rfl ?_
      refine ex_if_ne (pc := 129) (tgt := 136) dX7_joined_129 (by decide) (fun c_129 => ?_) (fun c_129 => ?_)
      · skip
        refine ex_iload_n (pc := 136) dX7_joined_136 rfl ?_
        refine ex_iconst (pc := 137) (v := (-1)) dX7_joined_137 (by decide) ?_
        refine ex_icmp_ne (pc := 138) (tgt := 146) dX7_joined_138 (by decide) (fun c_138 => ?_) (fun c_138 => ?_)
        · skip
          refine ex_iload_n (pc := 146) dX7_joined_146 rfl ?_
          refine ex_iload_n (pc := 147) dX7_joined_147 rfl ?_
          refine ex_idiv (pc := 148) dX7_joined_148 c_129 ?_
          refine ex_ret dX7_joined_149 rfl ?_
          refine qi_mk ⟨rfl, ?_⟩
          first | (simp_all [jnd, bI, nI_eq, nI_0]; done) | (simp_all [jnd, bI, nI_eq, nI_0, div_m1]; done) | (simp_all [jnd, bI, nI_eq, nI_0, sgn9]; done) | (simp_all [jnd, bI, nI_eq, nI_0, sgn9]; grind) | grind [jnd, bI, sgn9]
        · skip
          refine ex_iload_n (pc := 141) dX7_joined_141 rfl ?_
          refine ex_ineg (pc := 142) dX7_joined_142 ?_
          refine ex_goto (pc := 143) (tgt := 149) dX7_joined_143 (by decide) ?_
          refine ex_ret dX7_joined_149 rfl ?_
          refine qi_mk ⟨rfl, ?_⟩
          first | (simp_all [jnd, bI, nI_eq, nI_0]; done) | (simp_all [jnd, bI, nI_eq, nI_0, div_m1]; done) | (simp_all [jnd, bI, nI_eq, nI_0, sgn9]; done) | (simp_all [jnd, bI, nI_eq, nI_0, sgn9]; grind) | grind [jnd, bI, sgn9]
      · skip
        refine ex_iconst (pc := 132) (v := 0) dX7_joined_132 (by decide) ?_
        refine ex_goto (pc := 133) (tgt := 149) dX7_joined_133 (by decide) ?_
        refine ex_ret dX7_joined_149 rfl ?_
        refine qi_mk ⟨rfl, ?_⟩
        first | (simp_all [jnd, bI, nI_eq, nI_0]; done) | (simp_all [jnd, bI, nI_eq, nI_0, div_m1]; done) | (simp_all [jnd, bI, nI_eq, nI_0, sgn9]; done) | (simp_all [jnd, bI, nI_eq, nI_0, sgn9]; grind) | grind [jnd, bI, sgn9]
    · show Ex _ _ _ _ _ 197 _ _ _ _
      have c_1 : _ = nI 48 := c_1
      refine ex_iload_n (pc := 197) dX7_joined_197 rfl ?_
      refine ex_if_ne (pc := 198) (tgt := 205) dX7_joined_198 (by decide) (fun c_198 => ?_) (fun c_198 => ?_)
      · skip
        refine ex_iconst (pc := 205) (v := 1) dX7_joined_205 (by decide) ?_
        refine ex_goto (pc := 206) (tgt := 210) dX7_joined_206 (by decide) ?_
        refine ex_ret dX7_joined_210 rfl ?_
        refine qi_mk ⟨rfl, ?_⟩
        first | (simp_all [jnd, bI, nI_eq, nI_0]; done) | (simp_all [jnd, bI, nI_eq, nI_0, div_m1]; done) | (simp_all [jnd, bI, nI_eq, nI_0, sgn9]; done) | (simp_all [jnd, bI, nI_eq, nI_0, sgn9]; grind) | grind [jnd, bI, sgn9]
      · skip
        refine ex_iload_n (pc := 201) dX7_joined_201 rfl ?_
        refine ex_if_eq (pc := 202) (tgt := 209) dX7_joined_202 (by decide) (fun c_202 => ?_) (fun c_202 => ?_)
        · skip
          refine ex_iconst (pc := 209) (v := 0) dX7_joined_209 (by decide) ?_
          refine ex_ret dX7_joined_210 rfl ?_
          refine qi_mk ⟨rfl, ?_⟩
          first | (simp_all [jnd, bI, nI_eq, nI_0]; done) | (simp_all [jnd, bI, nI_eq, nI_0, div_m1]; done) | (simp_all [jnd, bI, nI_eq, nI_0, sgn9]; done) | (simp_all [jnd, bI, nI_eq, nI_0, sgn9]; grind) | grind [jnd, bI, sgn9]
        · skip
          refine ex_iconst (pc := 205) (v := 1) dX7_joined_205 (by decide) ?_
          refine ex_goto (pc := 206) (tgt := 210) dX7_joined_206 (by decide) ?_
          refine ex_ret dX7_joined_210 rfl ?_
          refine qi_mk ⟨rfl, ?_⟩
          first | (simp_all [jnd, bI, nI_eq, nI_0]; done) | (simp_all [jnd, bI, nI_eq, nI_0, div_m1]; done) | (simp_all [jnd, bI, nI_eq, nI_0, sgn9]; done) | (simp_all [jnd, bI, nI_eq, nI_0, sgn9]; grind) | grind [jnd, bI, sgn9]
    · show Ex _ _ _ _ _ 197 _ _ _ _
      have c_1 : _ = nI 49 := c_1
      refine ex_iload_n (pc := 197) dX7_joined_197 rfl ?_
      refine ex_if_ne (pc := 198) (tgt := 205) dX7_joined_198 (by decide) (fun c_198 => ?_) (fun c_198 => ?_)
      · skip
        refine ex_iconst (pc := 205) (v := 1) dX7_joined_205 (by decide) ?_
        refine ex_goto (pc := 206) (tgt := 210) dX7_joined_206 (by decide) ?_
        refine ex_ret dX7_joined_210 rfl ?_
        refine qi_mk ⟨rfl, ?_⟩
        first | (simp_all [jnd, bI, nI_eq, nI_0]; done) | (simp_all [jnd, bI, nI_eq, nI_0, div_m1]; done) | (simp_all [jnd, bI, nI_eq, nI_0, sgn9]; done) | (simp_all [jnd, bI, nI_eq, nI_0, sgn9]; grind) | grind [jnd, bI, sgn9]
      · skip
        refine ex_iload_n (pc := 201) dX7_joined_201 rfl ?_
        refine ex_if_eq (pc := 202) (tgt := 209) dX7_joined_202 (by decide) (fun c_202 => ?_) (fun c_202 => ?_)
        · skip
          refine ex_iconst (pc := 209) (v := 0) dX7_joined_209 (by decide) ?_
          refine ex_ret dX7_joined_210 rfl ?_
          refine qi_mk ⟨rfl, ?_⟩
          first | (simp_all [jnd, bI, nI_eq, nI_0]; done) | (simp_all [jnd, bI, nI_eq, nI_0, div_m1]; done) | (simp_all [jnd, bI, nI_eq, nI_0, sgn9]; done) | (simp_all [jnd, bI, nI_eq, nI_0, sgn9]; grind) | grind [jnd, bI, sgn9]
        · skip
          refine ex_iconst (pc := 205) (v := 1) dX7_joined_205 (by decide) ?_
          refine ex_goto (pc := 206) (tgt := 210) dX7_joined_206 (by decide) ?_
          refine ex_ret dX7_joined_210 rfl ?_
          refine qi_mk ⟨rfl, ?_⟩
          first | (simp_all [jnd, bI, nI_eq, nI_0]; done) | (simp_all [jnd, bI, nI_eq, nI_0, div_m1]; done) | (simp_all [jnd, bI, nI_eq, nI_0, sgn9]; done) | (simp_all [jnd, bI, nI_eq, nI_0, sgn9]; grind) | grind [jnd, bI, sgn9]
    · show Ex _ _ _ _ _ 197 _ _ _ _
      have c_1 : _ = nI 50 := c_1
      refine ex_iload_n (pc := 197) dX7_joined_197 rfl ?_
      refine ex_if_ne (pc := 198) (tgt := 205) dX7_joined_198 (by decide) (fun c_198 => ?_) (fun c_198 => ?_)
      · skip
        refine ex_iconst (pc := 205) (v := 1) dX7_joined_205 (by decide) ?_
        refine ex_goto (pc := 206) (tgt := 210) dX7_joined_206 (by decide) ?_
        refine ex_ret dX7_joined_210 rfl ?_
        refine qi_mk ⟨rfl, ?_⟩
        first | (simp_all [jnd, bI, nI_eq, nI_0]; done) | (simp_all [jnd, bI, nI_eq, nI_0, div_m1]; done) | (simp_all [jnd, bI, nI_eq, nI_0, sgn9]; done) | (simp_all [jnd, bI, nI_eq, nI_0, sgn9]; grind) | grind [jnd, bI, sgn9]
      · skip
        refine ex_iload_n (pc := 201) dX7_joined_201 rfl ?_
        refine ex_if_eq (pc := 202) (tgt := 209) dX7_joined_202 (by decide) (fun c_202 => ?_) (fun c_202 => ?_)
        · skip
          refine ex_iconst (pc := 209) (v := 0) dX7_joined_209 (by decide) ?_
          refine ex_ret dX7_joined_210 rfl ?_
          refine qi_mk ⟨rfl, ?_⟩
          first | (simp_all [jnd, bI, nI_eq, nI_0]; done) | (simp_all [jnd, bI, nI_eq, nI_0, div_m1]; done) | (simp_all [jnd, bI, nI_eq, nI_0, sgn9]; done) | (simp_all [jnd, bI, nI_eq, nI_0, sgn9]; grind) | grind [jnd, bI, sgn9]
        · skip
          refine ex_iconst (pc := 205) (v := 1) dX7_joined_205 (by decide) ?_
          refine ex_goto (pc := 206) (tgt := 210) dX7_joined_206 (by decide) ?_
          refine ex_ret dX7_joined_210 rfl ?_
          refine qi_mk ⟨rfl, ?_⟩
          first | (simp_all [jnd, bI, nI_eq, nI_0]; done) | (simp_all [jnd, bI, nI_eq, nI_0, div_m1]; done) | (simp_all [jnd, bI, nI_eq, nI_0, sgn9]; done) | (simp_all [jnd, bI, nI_eq, nI_0, sgn9]; grind) | grind [jnd, bI, sgn9]
    · show Ex _ _ _ _ _ 197 _ _ _ _
      have c_1 : _ = nI 51 := c_1
      refine ex_iload_n (pc := 197) dX7_joined_197 rfl ?_
      refine ex_if_ne (pc := 198) (tgt := 205) dX7_joined_198 (by decide) (fun c_198 => ?_) (fun c_198 => ?_)
      · skip
        refine ex_iconst (pc := 205) (v := 1) dX7_joined_205 (by decide) ?_
        refine ex_goto (pc := 206) (tgt := 210) dX7_joined_206 (by decide) ?_
        refine ex_ret dX7_joined_210 rfl ?_
        refine qi_mk ⟨rfl, ?_⟩
        first | (simp_all [jnd, bI, nI_eq, nI_0]; done) | (simp_all [jnd, bI, nI_eq, nI_0, div_m1]; done) | (simp_all [jnd, bI, nI_eq, nI_0, sgn9]; done) | (simp_all [jnd, bI, nI_eq, nI_0, sgn9]; grind) | grind [jnd, bI, sgn9]
      · skip
        refine ex_iload_n (pc := 201) dX7_joined_201 rfl ?_
        refine ex_if_eq (pc := 202) (tgt := 209) dX7_joined_202 (by decide) (fun c_202 => ?_) (fun c_202 => ?_)
        · skip
          refine ex_iconst (pc := 209) (v := 0) dX7_joined_209 (by decide) ?_
          refine ex_ret dX7_joined_210 rfl ?_
          refine qi_mk ⟨rfl, ?_⟩
          first | (simp_all [jnd, bI, nI_eq, nI_0]; done) | (simp_all [jnd, bI, nI_eq, nI_0, div_m1]; done) | (simp_all [jnd, bI, nI_eq, nI_0, sgn9]; done) | (simp_all [jnd, bI, nI_eq, nI_0, sgn9]; grind) | grind [jnd, bI, sgn9]
        · skip
          refine ex_iconst (pc := 205) (v := 1) dX7_joined_205 (by decide) ?_
          refine ex_goto (pc := 206) (tgt := 210) dX7_joined_206 (by decide) ?_
          refine ex_ret dX7_joined_210 rfl ?_
          refine qi_mk ⟨rfl, ?_⟩
          first | (simp_all [jnd, bI, nI_eq, nI_0]; done) | (simp_all [jnd, bI, nI_eq, nI_0, div_m1]; done) | (simp_all [jnd, bI, nI_eq, nI_0, sgn9]; done) | (simp_all [jnd, bI, nI_eq, nI_0, sgn9]; grind) | grind [jnd, bI, sgn9]
    · show Ex _ _ _ _ _ 197 _ _ _ _
      have c_1 : _ = nI 52 := c_1
      refine ex_iload_n (pc := 197) dX7_joined_197 rfl ?_
      refine ex_if_ne (pc := 198) (tgt := 205) dX7_joined_198 (by decide) (fun c_198 => ?_) (fun c_198 => ?_)
      · skip
        refine ex_iconst (pc := 205) (v := 1) dX7_joined_205 (by decide) ?_
        refine ex_goto (pc := 206) (tgt := 210) dX7_joined_206 (by decide) ?_
        refine ex_ret dX7_joined_210 rfl ?_
        refine qi_mk ⟨rfl, ?_⟩
        first | (simp_all [jnd, bI, nI_eq, nI_0]; done) | (simp_all [jnd, bI, nI_eq, nI_0, div_m1]; done) | (simp_all [jnd, bI, nI_eq, nI_0, sgn9]; done) | (simp_all [jnd, bI, nI_eq, nI_0, sgn9]; grind) | grind [jnd, bI, sgn9]
      · skip
        refine ex_iload_n (pc := 201) dX7_joined_201 rfl ?_
        refine ex_if_eq (pc := 202) (tgt := 209) dX7_joined_202 (by decide) (fun c_202 => ?_) (fun c_202 => ?_)
        · skip
          refine ex_iconst (pc := 209) (v := 0) dX7_joined_209 (by decide) ?_
          refine ex_ret dX7_joined_210 rfl ?_
          refine qi_mk ⟨rfl, ?_⟩
          first | (simp_all [jnd, bI, nI_eq, nI_0]; done) | (simp_all [jnd, bI, nI_eq, nI_0, div_m1]; done) | (simp_all [jnd, bI, nI_eq, nI_0, sgn9]; done) | (simp_all [jnd, bI, nI_eq, nI_0, sgn9]; grind) | grind [jnd, bI, sgn9]
        · skip
          refine ex_iconst (pc := 205) (v := 1) dX7_joined_205 (by decide) ?_
          refine ex_goto (pc := 206) (tgt := 210) dX7_joined_206 (by decide) ?_
          refine ex_ret dX7_joined_210 rfl ?_
          refine qi_mk ⟨rfl, ?_⟩
          first | (simp_all [jnd, bI, nI_eq, nI_0]; done) | (simp_all [jnd, bI, nI_eq, nI_0, div_m1]; done) | (simp_all [jnd, bI, nI_eq, nI_0, sgn9]; done) | (simp_all [jnd, bI, nI_eq, nI_0, sgn9]; grind) | grind [jnd, bI, sgn9]
    · show Ex _ _ _ _ _ 197 _ _ _ _
      have c_1 : _ = nI 53 := c_1
      refine ex_iload_n (pc := 197) dX7_joined_197 rfl ?_
      refine ex_if_ne (pc := 198) (tgt := 205) dX7_joined_198 (by decide) (fun c_198 => ?_) (fun c_198 => ?_)
      · skip
        refine ex_iconst (pc := 205) (v := 1) dX7_joined_205 (by decide) ?_
        refine ex_goto (pc := 206) (tgt := 210) dX7_joined_206 (by decide) ?_
        refine ex_ret dX7_joined_210 rfl ?_
        refine qi_mk ⟨rfl, ?_⟩
        first | (simp_all [jnd, bI, nI_eq, nI_0]; done) | (simp_all [jnd, bI, nI_eq, nI_0, div_m1]; done) | (simp_all [jnd, bI, nI_eq, nI_0, sgn9]; done) | (simp_all [jnd, bI, nI_eq, nI_0, sgn9]; grind) | grind [jnd, bI, sgn9]
      · skip
        refine ex_iload_n (pc := 201) dX7_joined_201 rfl ?_
        refine ex_if_eq (pc := 202) (tgt := 209) dX7_joined_202 (by decide) (fun c_202 => ?_) (fun c_202 => ?_)
        · skip
          refine ex_iconst (pc := 209) (v := 0) dX7_joined_209 (by decide) ?_
          refine ex_ret dX7_joined_210 rfl ?_
          refine qi_mk ⟨rfl, ?_⟩
          first | (simp_all [jnd, bI, nI_eq, nI_0]; done) | (simp_all [jnd, bI, nI_eq, nI_0, div_m1]; done) | (simp_all [jnd, bI, nI_eq, nI_0, sgn9]; done) | (simp_all [jnd, bI, nI_eq, nI_0, sgn9]; grind) | grind [jnd, bI, sgn9]
        · skip
          refine ex_iconst (pc := 205) (v := 1) dX7_joined_205 (by decide) ?_
          refine ex_goto (pc := 206) (tgt := 210) dX7_joined_206 (by decide) ?_
          refine ex_ret dX7_joined_210 rfl ?_
          refine qi_mk ⟨rfl, ?_⟩
          first | (simp_all [jnd, bI, nI_eq, nI_0]; done) | (simp_all [jnd, bI, nI_eq, nI_0, div_m1]; done) | (simp_all [jnd, bI, nI_eq, nI_0, sgn9]; done) | (simp_all [jnd, bI, nI_eq, nI_0, sgn9]; grind) | grind [jnd, bI, sgn9]
    · show Ex _ _ _ _ _ 197 _ _ _ _
      have c_1 : _ = nI 54 := c_1
      refine ex_iload_n (pc := 197) dX7_joined_197 rfl ?_
      refine ex_if_ne (pc := 198) (tgt := 205) dX7_joined_198 (by decide) (fun c_198 => ?_) (fun c_198 => ?_)
      · skip
        refine ex_iconst (pc := 205) (v := 1) dX7_joined_205 (by decide) ?_
        refine ex_goto (pc := 206) (tgt := 210) dX7_joined_206 (by decide) ?_
        refine ex_ret dX7_joined_210 rfl ?_
        refine qi_mk ⟨rfl, ?_⟩
        first | (simp_all [jnd, bI, nI_eq, nI_0]; done) | (simp_all [jnd, bI, nI_eq, nI_0, div_m1]; done) | (simp_all [jnd, bI, nI_eq, nI_0, sgn9]; done) | (simp_all [jnd, bI, nI_eq, nI_0, sgn9]; grind) | grind [jnd, bI, sgn9]
      · skip
        refine ex_iload_n (pc := 201) dX7_joined_201 rfl ?_
        refine ex_if_eq (pc := 202) (tgt := 209) dX7_joined_202 (by decide) (fun c_202 => ?_) (fun c_202 => ?_)
        · skip
          refine ex_iconst (pc := 209) (v := 0) dX7_joined_209 (by decide) ?_
          refine ex_ret dX7_joined_210 rfl ?_
          refine qi_mk ⟨rfl, ?_⟩
          first | (simp_all [jnd, bI, nI_eq, nI_0]; done) | (simp_all [jnd, bI, nI_eq, nI_0, div_m1]; done) | (simp_all [jnd, bI, nI_eq, nI_0, sgn9]; done) | (simp_all [jnd, bI, nI_eq, nI_0, sgn9]; grind) | grind [jnd, bI, sgn9]
        · skip
          refine ex_iconst (pc := 205) (v := 1) dX7_joined_205 (by decide) ?_
          refine ex_goto (pc := 206) (tgt := 210) dX7_joined_206 (by decide) ?_
          refine ex_ret dX7_joined_210 rfl ?_
          refine qi_mk ⟨rfl, ?_⟩
          first | (simp_all [jnd, bI, nI_eq, nI_0]; done) | (simp_all [jnd, bI, nI_eq, nI_0, div_m1]; done) | (simp_all [jnd, bI, nI_eq, nI_0, sgn9]; done) | (simp_all [jnd, bI, nI_eq, nI_0, sgn9]; grind) | grind [jnd, bI, sgn9]
    · show Ex _ _ _ _ _ 197 _ _ _ _
      have c_1 : _ = nI 55 := c_1
      refine ex_iload_n (pc := 197) dX7_joined_197 rfl ?_
      refine ex_if_ne (pc := 198) (tgt := 205) dX7_joined_198 (by decide) (fun c_198 => ?_) (fun c_198 => ?_)
      · skip
        refine ex_iconst (pc := 205) (v := 1) dX7_joined_205 (by decide) ?_
        refine ex_goto (pc := 206) (tgt := 210) dX7_joined_206 (by decide) ?_
        refine ex_ret dX7_joined_210 rfl ?_
        refine qi_mk ⟨rfl, ?_⟩
        first | (simp_all [jnd, bI, nI_eq, nI_0]; done) | (simp_all [jnd, bI, nI_eq, nI_0, div_m1]; done) | (simp_all [jnd, bI, nI_eq, nI_0, sgn9]; done) | (simp_all [jnd, bI, nI_eq, nI_0, sgn9]; grind) | grind [jnd, bI, sgn9]
      · skip
        refine ex_iload_n (pc := 201) dX7_joined_201 rfl ?_
        refine ex_if_eq (pc := 202) (tgt := 209) dX7_joined_202 (by decide) (fun c_202 => ?_) (fun c_202 => ?_)
        · skip
          refine ex_iconst (pc := 209) (v := 0) dX7_joined_209 (by decide) ?_
          refine ex_ret dX7_joined_210 rfl ?_
          refine qi_mk ⟨rfl, ?_⟩
          first | (simp_all [jnd, bI, nI_eq, nI_0]; done) | (simp_all [jnd, bI, nI_eq, nI_0, div_m1]; done) | (simp_all [jnd, bI, nI_eq, nI_0, sgn9]; done) | (simp_all [jnd, bI, nI_eq, nI_0, sgn9]; grind) | grind [jnd, bI, sgn9]
        · skip
          refine ex_iconst (pc := 205) (v := 1) dX7_joined_205 (by decide) ?_
          refine ex_goto (pc := 206) (tgt := 210) dX7_joined_206 (by decide) ?_
          refine ex_ret dX7_joined_210 rfl ?_
          refine qi_mk ⟨rfl, ?_⟩
          first | (simp_all [jnd, bI, nI_eq, nI_0]; done) | (simp_all [jnd, bI, nI_eq, nI_0, div_m1]; done) | (simp_all [jnd, bI, nI_eq, nI_0, sgn9]; done) | (simp_all [jnd, bI, nI_eq, nI_0, sgn9]; grind) | grind [jnd, bI, sgn9]
    · show Ex _ _ _ _ _ 197 _ _ _ _
      have c_1 : _ = nI 56 := c_1
      refine ex_iload_n (pc := 197) dX7_joined_197 rfl ?_
      refine ex_if_ne (pc := 198) (tgt := 205) dX7_joined_198 (by decide) (fun c_198 => ?_) (fun c_198 => ?_)
      · skip
        refine ex_iconst (pc := 205) (v := 1) dX7_joined_205 (by decide) ?_
        refine ex_goto (pc := 206) (tgt := 210) dX7_joined_206 (by decide) ?_
        refine ex_ret dX7_joined_210 rfl ?_
        refine qi_mk ⟨rfl, ?_⟩
        first | (simp_all [jnd, bI, nI_eq, nI_0]; done) | (simp_all [jnd, bI, nI_eq, nI_0, div_m1]; done) | (simp_all [jnd, bI, nI_eq, nI_0, sgn9]; done) | (simp_all [jnd, bI, nI_eq, nI_0, sgn9]; grind) | grind [jnd, bI, sgn9]
      · skip
        refine ex_iload_n (pc := 201) dX7_joined_201 rfl ?_
        refine ex_if_eq (pc := 202) (tgt := 209) dX7_joined_202 (by decide) (fun c_202 => ?_) (fun c_202 => ?_)
        · skip
          refine ex_iconst (pc := 209) (v := 0) dX7_joined_209 (by decide) ?_
          refine ex_ret dX7_joined_210 rfl ?_
          refine qi_mk ⟨rfl, ?_⟩
          first | (simp_all [jnd, bI, nI_eq, nI_0]; done) | (simp_all [jnd, bI, nI_eq, nI_0, div_m1]; done) | (simp_all [jnd, bI, nI_eq, nI_0, sgn9]; done) | (simp_all [jnd, bI, nI_eq, nI_0, sgn9]; grind) | grind [jnd, bI, sgn9]
        · skip
          refine ex_iconst (pc := 205) (v := 1) dX7_joined_205 (by decide) ?_
          refine ex_goto (pc := 206) (tgt := 210) dX7_joined_206 (by decide) ?_
          refine ex_ret dX7_joined_210 rfl ?_
          refine qi_mk ⟨rfl, ?_⟩
          first | (simp_all [jnd, bI, nI_eq, nI_0]; done) | (simp_all [jnd, bI, nI_eq, nI_0, div_m1]; done) | (simp_all [jnd, bI, nI_eq, nI_0, sgn9]; done) | (simp_all [jnd, bI, nI_eq, nI_0, sgn9]; grind) | grind [jnd, bI, sgn9]
    · show Ex _ _ _ _ _ 197 _ _ _ _
      have c_1 : _ = nI 57 := c_1
      refine ex_iload_n (pc := 197) dX7_joined_197 rfl ?_
      refine ex_if_ne (pc := 198) (tgt := 205) dX7_joined_198 (by decide) (fun c_198 => ?_) (fun c_198 => ?_)
      · skip
        refine ex_iconst (pc := 205) (v := 1) dX7_joined_205 (by decide) ?_
        refine ex_goto (pc := 206) (tgt := 210) dX7_joined_206 (by decide) ?_
        refine ex_ret dX7_joined_210 rfl ?_
        refine qi_mk ⟨rfl, ?_⟩
        first | (simp_all [jnd, bI, nI_eq, nI_0]; done) | (simp_all [jnd, bI, nI_eq, nI_0, div_m1]; done) | (simp_all [jnd, bI, nI_eq, nI_0, sgn9]; done) | (simp_all [jnd, bI, nI_eq, nI_0, sgn9]; grind) | grind [jnd, bI, sgn9]
      · skip
        refine ex_iload_n (pc := 201) dX7_joined_201 rfl ?_
        refine ex_if_eq (pc := 202) (tgt := 209) dX7_joined_202 (by decide) (fun c_202 => ?_) (fun c_202 => ?_)
        · skip
          refine ex_iconst (pc := 209) (v := 0) dX7_joined_209 (by decide) ?_
          refine ex_ret dX7_joined_210 rfl ?_
          refine qi_mk ⟨rfl, ?_⟩
          first | (simp_all [jnd, bI, nI_eq, nI_0]; done) | (simp_all [jnd, bI, nI_eq, nI_0, div_m1]; done) | (simp_all [jnd, bI, nI_eq, nI_0, sgn9]; done) | (simp_all [jnd, bI, nI_eq, nI_0, sgn9]; grind) | grind [jnd, bI, sgn9]
        · skip
          refine ex_iconst (pc := 205) (v := 1) dX7_joined_205 (by decide) ?_
          refine ex_goto (pc := 206) (tgt := 210) dX7_joined_206 (by decide) ?_
          refine ex_ret dX7_joined_210 rfl ?_
          refine qi_mk ⟨rfl, ?_⟩
          first | (simp_all [jnd, bI, nI_eq, nI_0]; done) | (simp_all [jnd, bI, nI_eq, nI_0, div_m1]; done) | (simp_all [jnd, bI, nI_eq, nI_0, sgn9]; done) | (simp_all [jnd, bI, nI_eq, nI_0, sgn9]; grind) | grind [jnd, bI, sgn9]
    · show Ex _ _ _ _ _ 197 _ _ _ _
      have c_1 : _ = nI 58 := c_1
      refine ex_iload_n (pc := 197) dX7_joined_197 rfl ?_
      refine ex_if_ne (pc := 198) (tgt := 205) dX7_joined_198 (by decide) (fun c_198 => ?_) (fun c_198 => ?_)
      · skip
        refine ex_iconst (pc := 205) (v := 1) dX7_joined_205 (by decide) ?_
        refine ex_goto (pc := 206) (tgt := 210) dX7_joined_206 (by decide) ?_
        refine ex_ret dX7_joined_210 rfl ?_
        refine qi_mk ⟨rfl, ?_⟩
        first | (simp_all [jnd, bI, nI_eq, nI_0]; done) | (simp_all [jnd, bI, nI_eq, nI_0, div_m1]; done) | (simp_all [jnd, bI, nI_eq, nI_0, sgn9]; done) | (simp_all [jnd, bI, nI_eq, nI_0, sgn9]; grind) | grind [jnd, bI, sgn9]
      · skip
        refine ex_iload_n (pc := 201) dX7_joined_201 rfl ?_
        refine ex_if_eq (pc := 202) (tgt := 209) dX7_joined_202 (by decide) (fun c_202 => ?_) (fun c_202 => ?_)
        · skip
          refine ex_iconst (pc := 209) (v := 0) dX7_joined_209 (by decide) ?_
          refine ex_ret dX7_joined_210 rfl ?_
          refine qi_mk ⟨rfl, ?_⟩
          first | (simp_all [jnd, bI, nI_eq, nI_0]; done) | (simp_all [jnd, bI, nI_eq, nI_0, div_m1]; done) | (simp_all [jnd, bI, nI_eq, nI_0, sgn9]; done) | (simp_all [jnd, bI, nI_eq, nI_0, sgn9]; grind) | grind [jnd, bI, sgn9]
        · skip
          refine ex_iconst (pc := 205) (v := 1) dX7_joined_205 (by decide) ?_
          refine ex_goto (pc := 206) (tgt := 210) dX7_joined_206 (by decide) ?_
          refine ex_ret dX7_joined_210 rfl ?_
          refine qi_mk ⟨rfl, ?_⟩
          first | (simp_all [jnd, bI, nI_eq, nI_0]; done) | (simp_all [jnd, bI, nI_eq, nI_0, div_m1]; done) | (simp_all [jnd, bI, nI_eq, nI_0, sgn9]; done) | (simp_all [jnd, bI, nI_eq, nI_0, sgn9]; grind) | grind [jnd, bI, sgn9]
    · show Ex _ _ _ _ _ 197 _ _ _ _
      have c_1 : _ = nI 59 := c_1
      refine ex_iload_n (pc := 197) dX7_joined_197 rfl ?_
      refine ex_if_ne (pc := 198) (tgt := 205) dX7_joined_198 (by decide) (fun c_198 => ?_) (fun c_198 => ?_)
      · skip
        refine ex_iconst (pc := 205) (v := 1) dX7_joined_205 (by decide) ?_
        refine ex_goto (pc := 206) (tgt := 210) dX7_joined_206 (by decide) ?_
        refine ex_ret dX7_joined_210 rfl ?_
        refine qi_mk ⟨rfl, ?_⟩
        first | (simp_all [jnd, bI, nI_eq, nI_0]; done) | (simp_all [jnd, bI, nI_eq, nI_0, div_m1]; done) | (simp_all [jnd, bI, nI_eq, nI_0, sgn9]; done) | (simp_all [jnd, bI, nI_eq, nI_0, sgn9]; grind) | grind [jnd, bI, sgn9]
      · skip
        refine ex_iload_n (pc := 201) dX7_joined_201 rfl ?_
        refine ex_if_eq (pc := 202) (tgt := 209) dX7_joined_202 (by decide) (fun c_202 => ?_) (fun c_202 => ?_)
        · skip
          refine ex_iconst (pc := 209) (v := 0) dX7_joined_209 (by decide) ?_
          refine ex_ret dX7_joined_210 rfl ?_
          refine qi_mk ⟨rfl, ?_⟩
          first | (simp_all [jnd, bI, nI_eq, nI_0]; done) | (simp_all [jnd, bI, nI_eq, nI_0, div_m1]; done) | (simp_all [jnd, bI, nI_eq, nI_0, sgn9]; done) | (simp_all [jnd, bI, nI_eq, nI_0, sgn9]; grind) | grind [jnd, bI, sgn9]
        · skip
          refine ex_iconst (pc := 205) (v := 1) dX7_joined_205 (by decide) ?_
          refine ex_goto (pc := 206) (tgt := 210) dX7_joined_206 (by decide) ?_
          refine ex_ret dX7_joined_210 rfl ?_
          refine qi_mk ⟨rfl, ?_⟩
          first | (simp_all [jnd, bI, nI_eq, nI_0]; done) | (simp_all [jnd, bI, nI_eq, nI_0, div_m1]; done) | (simp_all [jnd, bI, nI_eq, nI_0, sgn9]; done) | (simp_all [jnd, bI, nI_eq, nI_0, sgn9]; grind) | grind [jnd, bI, sgn9]
    · show Ex _ _ _ _ _ 150 _ _ _ _
      have c_1 : _ = nI 60 := c_1
      refine ex_iload_n (pc := 150) dX7_joined_150 rfl ?_
      refine ex_iload_n (pc := 151) dX7_joined_151 rfl ?_
      refine ex_icmp_ge (pc := 152) (tgt := 159) dX7_joined_152 (by decide) (fun c_152 => ?_) (fun c_152 => ?_)
      · skip
        refine ex_iconst (pc := 159) (v := 0) dX7_joined_159 (by decide) ?_
        refine ex_ret dX7_joined_160 rfl ?_
        refine qi_mk ⟨rfl, ?_⟩
        first | (simp_all [jnd, bI, nI_eq, nI_0]; done) | (simp_all [jnd, bI, nI_eq, nI_0, div_m1]; done) | (simp_all [jnd, bI, nI_eq, nI_0, sgn9]; done) | (simp_all [jnd, bI, nI_eq, nI_0, sgn9]; grind) | grind [jnd, bI, sgn9]
      · skip
        refine ex_iconst (pc := 155) (v := 1) dX7_joined_155 (by decide) ?_
        refine ex_goto (pc := 156) (tgt := 160) dX7_joined_156 (by decide) ?_
        refine ex_ret dX7_joined_160 rfl ?_
        refine qi_mk ⟨rfl, ?_⟩
        first | (simp_all [jnd, bI, nI_eq, nI_0]; done) | (simp_all [jnd, bI, nI_eq, nI_0, div_m1]; done) | (simp_all [jnd, bI, nI_eq, nI_0, sgn9]; done) | (simp_all [jnd, bI, nI_eq, nI_0, sgn9]; grind) | grind [jnd, bI, sgn9]
    · show Ex _ _ _ _ _ 172 _ _ _ _
      have c_1 : _ = nI 61 := c_1
      refine ex_iload_n (pc := 172) dX7_joined_172 rfl ?_
      refine ex_iload_n (pc := 173) dX7_joined_173 rfl ?_
      refine ex_icmp_ne (pc := 174) (tgt := 181) dX7_joined_174 (by decide) (fun c_174 => ?_) (fun c_174 => ?_)
      · skip
        refine ex_iconst (pc := 181) (v := 0) dX7_joined_181 (by decide) ?_
        refine ex_ret dX7_joined_182 rfl ?_
        refine qi_mk ⟨rfl, ?_⟩
        first | (simp_all [jnd, bI, nI_eq, nI_0]; done) | (simp_all [jnd, bI, nI_eq, nI_0, div_m1]; done) | (simp_all [jnd, bI, nI_eq, nI_0, sgn9]; done) | (simp_all [jnd, bI, nI_eq, nI_0, sgn9]; grind) | grind [jnd, bI, sgn9]
      · skip
        refine ex_iconst (pc := 177) (v := 1) dX7_joined_177 (by decide) ?_
        refine ex_goto (pc := 178) (tgt := 182) dX7_joined_178 (by decide) ?_
        refine ex_ret dX7_joined_182 rfl ?_
        refine qi_mk ⟨rfl, ?_⟩
        first | (simp_all [jnd, bI, nI_eq, nI_0]; done) | (simp_all [jnd, bI, nI_eq, nI_0, div_m1]; done) | (simp_all [jnd, bI, nI_eq, nI_0, sgn9]; done) | (simp_all [jnd, bI, nI_eq, nI_0, sgn9]; grind) | grind [jnd, bI, sgn9]
    · show Ex _ _ _ _ _ 161 _ _ _ _
      have c_1 : _ = nI 62 := c_1
      refine ex_iload_n (pc := 161) dX7_joined_161 rfl ?_
      refine ex_iload_n (pc := 162) dX7_joined_162 rfl ?_
      refine ex_icmp_le (pc := 163) (tgt := 170) dX7_joined_163 (by decide) (fun c_163 => ?_) (fun c_163 => ?_)
      · skip
        refine ex_iconst (pc := 170) (v := 0) dX7_joined_170 (by decide) ?_
        refine ex_ret dX7_joined_171 rfl ?_
        refine qi_mk ⟨rfl, ?_⟩
        first | (simp_all [jnd, bI, nI_eq, nI_0]; done) | (simp_all [jnd, bI, nI_eq, nI_0, div_m1]; done) | (simp_all [jnd, bI, nI_eq, nI_0, sgn9]; done) | (simp_all [jnd, bI, nI_eq, nI_0, sgn9]; grind) | grind [jnd, bI, sgn9]
      · skip
        refine ex_iconst (pc := 166) (v := 1) dX7_joined_166 (by decide) ?_
        refine ex_goto (pc := 167) (tgt := 171) dX7_joined_167 (by decide) ?_
        refine ex_ret dX7_joined_171 rfl ?_
        refine qi_mk ⟨rfl, ?_⟩
        first | (simp_all [jnd, bI, nI_eq, nI_0]; done) | (simp_all [jnd, bI, nI_eq, nI_0, div_m1]; done) | (simp_all [jnd, bI, nI_eq, nI_0, sgn9]; done) | (simp_all [jnd, bI, nI_eq, nI_0, sgn9]; grind) | grind [jnd, bI, sgn9]
  · skip
    have c_1_38 : ¬ _ = nI 38 := c_1 0 (by decide)
    have c_1_39 : ¬ _ = nI 39 := c_1 1 (by decide)
    have c_1_40 : ¬ _ = nI 40 := c_1 2 (by decide)
    have c_1_41 : ¬ _ = nI 41 := c_1 3 (by decide)
    have c_1_42 : ¬ _ = nI 42 := c_1 4 (by decide)
    have c_1_43 : ¬ _ = nI 43 := c_1 5 (by decide)
    have c_1_44 : ¬ _ = nI 44 := c_1 6 (by decide)
    have c_1_45 : ¬ _ = nI 45 := c_1 7 (by decide)
    have c_1_46 : ¬ _ = nI 46 := c_1 8 (by decide)
    have c_1_47 : ¬ _ = nI 47 := c_1 9 (by decide)
    have c_1_48 : ¬ _ = nI 48 := c_1 10 (by decide)
    have c_1_49 : ¬ _ = nI 49 := c_1 11 (by decide)
    have c_1_50 : ¬ _ = nI 50 := c_1 12 (by decide)
    have c_1_51 : ¬ _ = nI 51 := c_1 13 (by decide)
    have c_1_52 : ¬ _ = nI 52 := c_1 14 (by decide)
    have c_1_53 : ¬ _ = nI 53 := c_1 15 (by decide)
    have c_1_54 : ¬ _ = nI 54 := c_1 16 (by decide)
    have c_1_55 : ¬ _ = nI 55 := c_1 17 (by decide)
    have c_1_56 : ¬ _ = nI 56 := c_1 18 (by decide)
    have c_1_57 : ¬ _ = nI 57 := c_1 19 (by decide)
    have c_1_58 : ¬ _ = nI 58 := c_1 20 (by decide)
    have c_1_59 : ¬ _ = nI 59 := c_1 21 (by decide)
    have c_1_60 : ¬ _ = nI 60 := c_1 22 (by decide)
    have c_1_61 : ¬ _ = nI 61 := c_1 23 (by decide)
    have c_1_62 : ¬ _ = nI 62 := c_1 24 (by decide)
    refine ex_iload_n (pc := 197) dX7_joined_197 rfl ?_
    refine ex_if_ne (pc := 198) (tgt := 205) dX7_joined_198 (by decide) (fun c_198 => ?_) (fun c_198 => ?_)
    · skip
      refine ex_iconst (pc := 205) (v := 1) dX7_joined_205 (by decide) ?_
      refine ex_goto (pc := 206) (tgt := 210) dX7_joined_206 (by decide) ?_
      refine ex_ret dX7_joined_210 rfl ?_
      refine qi_mk ⟨rfl, ?_⟩
      first | (simp_all [jnd, bI, nI_eq, nI_0]; done) | (simp_all [jnd, bI, nI_eq, nI_0, div_m1]; done) | (simp_all [jnd, bI, nI_eq, nI_0, sgn9]; done) | (simp_all [jnd, bI, nI_eq, nI_0, sgn9]; grind) | grind [jnd, bI, sgn9]
    · skip
      refine ex_iload_n (pc := 201) dX7_joined_201 rfl ?_
      refine ex_if_eq (pc := 202) (tgt := 209) dX7_joined_202 (by decide) (fun c_202 => ?_) (fun c_202 => ?_)
      · skip
        refine ex_iconst (pc := 209) (v := 0) dX7_joined_209 (by decide) ?_
        refine ex_ret dX7_joined_210 rfl ?_
        refine qi_mk ⟨rfl, ?_⟩
        first | (simp_all [jnd, bI, nI_eq, nI_0]; done) | (simp_all [jnd, bI, nI_eq, nI_0, div_m1]; done) | (simp_all [jnd, bI, nI_eq, nI_0, sgn9]; done) | (simp_all [jnd, bI, nI_eq, nI_0, sgn9]; grind) | grind [jnd, bI, sgn9]
      · skip
        refine ex_iconst (pc := 205) (v := 1) dX7_joined_205 (by decide) ?_
        refine ex_goto (pc := 206) (tgt := 210) dX7_joined_206 (by decide) ?_
        refine ex_ret dX7_joined_210 rfl ?_
        refine qi_mk ⟨rfl, ?_⟩
        first | (simp_all [jnd, bI, nI_eq, nI_0]; done) | (simp_all [jnd, bI, nI_eq, nI_0, div_m1]; done) | (simp_all [jnd, bI, nI_eq, nI_0, sgn9]; done) | (simp_all [jnd, bI, nI_eq, nI_0, sgn9]; grind) | grind [jnd, bI, sgn9]
/-- steps: 0 a number comes to the pile, 1 the topmost turns, 2 the two topmost are joined -/
def dpt (op : Nat → Nat × Int32) : Nat → Nat
  | 0 => 0
  | k + 1 => if (op k).1 = 0 then dpt op k + 1 else if (op k).1 = 1 then dpt op k else dpt op k - 1
def pil (op : Nat → Nat × Int32) (f0 : Nat → Int32) : Nat → Nat → Int32
  | 0 => f0
  | k + 1 => if (op k).1 = 0 then upd (pil op f0 k) (dpt op k) (op k).2 else if (op k).1 = 1 then upd (pil op f0 k) (dpt op k - 1) (bI (pil op f0 k (dpt op k - 1) = 0)) else upd (pil op f0 k) (dpt op k - 2) (jnd (op k).2 (pil op f0 k (dpt op k - 2)) (pil op f0 k (dpt op k - 1)))
/-- the steps are a text's: the pile never wants, lv numbers and names, L steps -/
def wfO (op : Nat → Nat × Int32) (L lv : Nat) : Prop := (∀ k, k < L → ((op k).1 = 0 → dpt op k < lv) ∧ ((op k).1 = 1 → 1 ≤ dpt op k) ∧ (¬ (op k).1 = 0 → ¬ (op k).1 = 1 → 2 ≤ dpt op k)) ∧ 1 ≤ dpt op L ∧ L ≤ 96 ∧ lv ≤ 96
theorem pil_same {op : Nat → Nat × Int32} {L lv : Nat} (hw : wfO op L lv) (f g : Nat → Int32) : ∀ k, k ≤ L → ∀ i, i < dpt op k → pil op f k i = pil op g k i := by
  intro k
  induction k with
  | zero => intro _ i hi; exact absurd hi (Nat.not_lt_zero i)
  | succ k ih =>
    intro hk i hi
    have hj := ih (by omega)
    obtain ⟨w0, w1, w2⟩ := hw.1 k (by omega)
    unfold pil
    unfold dpt at hi
    by_cases h0 : (op k).1 = 0
    · simp only [if_pos h0] at hi ⊢
      unfold upd
      by_cases e : i = dpt op k
      · simp [e]
      · simp only [if_neg e]; exact hj i (by omega)
    · by_cases h1 : (op k).1 = 1
      · simp only [if_neg h0, if_pos h1] at hi ⊢
        have := w1 h1
        unfold upd
        by_cases e : i = dpt op k - 1
        · simp only [if_pos e]; rw [hj _ (by omega)]
        · simp only [if_neg e]; exact hj i hi
      · simp only [if_neg h0, if_neg h1] at hi ⊢
        have := w2 h0 h1
        unfold upd
        by_cases e : i = dpt op k - 2
        · simp only [if_pos e]; rw [hj _ (by omega), hj (dpt op k - 1) (by omega)]
        · simp only [if_neg e]; exact hj i (by omega)
theorem dpt_le {op : Nat → Nat × Int32} {L lv : Nat} (hw : wfO op L lv) : ∀ k, k ≤ L → dpt op k ≤ lv := by
  intro k
  induction k with
  | zero => intro _; exact Nat.zero_le _
  | succ k ih =>
    intro hk
    have := ih (by omega)
    obtain ⟨w0, w1, w2⟩ := hw.1 k (by omega)
    unfold dpt
    by_cases h0 : (op k).1 = 0
    · rw [if_pos h0]; exact w0 h0
    · rw [if_neg h0]
      by_cases h1 : (op k).1 = 1
      · rw [if_pos h1]; exact this
      · rw [if_neg h1]; omega
/-- the class's steps -/
def opC (f : Nat → Int32) (a b c : Int32) (k : Nat) : Nat × Int32 := if (-3 : Int32) ≤ f k then (0, if 0 ≤ f k then f k else if f k = -1 then a else if f k = -2 then b else c) else if f k = -33 then (1, 0) else (2, -(f k))
/-- the reference's steps -/
def opM (wh v nm : Nat → Int32) (k : Nat) : Nat × Int32 := if wh k = nI 2 then (if v k = nI 33 then (1, 0) else (2, v k)) else (0, if wh k = nI 0 then v k else nm (v k).toNatClampNeg)
theorem set_same {h : AH} {q : Nat} {c : va_E} (he : h[q]? = some c) : h.set q c = h := by
  apply List.ext_getElem?
  intro i
  rw [List.getElem?_set]
  by_cases e : q = i
  · subst e
    rw [if_pos rfl, if_pos (List.getElem?_eq_some_iff.mp he).1, he]
  · rw [if_neg e]
theorem pk_m1d {n : Nat} (h : 1 ≤ n) : nI n + Int32.ofInt (-1) = nI (n - 1) := by
  obtain ⟨m, rfl⟩ : ∃ m, n = m + 1 := ⟨n - 1, by omega⟩
  exact pk_m1 m
theorem st0 {op : Nat → Nat × Int32} {f : Nat → Int32} {k : Nat} {v : Int32} (e : op k = (0, v)) : dpt op (k + 1) = dpt op k + 1 ∧ pil op f (k + 1) = upd (pil op f k) (dpt op k) v := by
  constructor
  · rw [dpt, e]; rfl
  · rw [pil, e]; rfl
theorem st1 {op : Nat → Nat × Int32} {f : Nat → Int32} {k : Nat} {v : Int32} (e : op k = (1, v)) : dpt op (k + 1) = dpt op k ∧ pil op f (k + 1) = upd (pil op f k) (dpt op k - 1) (bI (pil op f k (dpt op k - 1) = 0)) := by
  constructor
  · rw [dpt, e]; rfl
  · rw [pil, e]; rfl
theorem st2 {op : Nat → Nat × Int32} {f : Nat → Int32} {k : Nat} {v : Int32} (e : op k = (2, v)) : dpt op (k + 1) = dpt op k - 1 ∧ pil op f (k + 1) = upd (pil op f k) (dpt op k - 2) (jnd v (pil op f k (dpt op k - 2)) (pil op f k (dpt op k - 1))) := by
  constructor
  · rw [dpt, e]; rfl
  · rw [pil, e]; rfl
section OPC
variable {f : Nat → Int32} {a b c : Int32} {k : Nat}
theorem op_n (h : ¬ f k < -3) (h0 : ¬ f k < 0) : opC f a b c k = (0, f k) := by unfold opC; rw [if_pos (Int32.not_lt.mp h), if_pos (Int32.not_lt.mp h0)]
theorem op_a (h : f k = -1) : opC f a b c k = (0, a) := by unfold opC; rw [h]; rfl
theorem op_b (h : f k = -2) : opC f a b c k = (0, b) := by unfold opC; rw [h]; rfl
theorem op_c (h : ¬ f k < -3) (h0 : f k < 0) (h1 : ¬ f k = -1) (h2 : ¬ f k = -2) : opC f a b c k = (0, c) := by unfold opC; rw [if_pos (Int32.not_lt.mp h), if_neg (Int32.not_le.mpr h0), if_neg h1, if_neg h2]
theorem op_t (h : f k = -33) : opC f a b c k = (1, 0) := by unfold opC; rw [h]; rfl
theorem op_j (h : f k < -3) (h2 : ¬ f k = -33) : opC f a b c k = (2, -(f k)) := by unfold opC; rw [if_neg (Int32.not_le.mpr h), if_neg h2]
end OPC
theorem nI_m2 {n : Nat} (h : 2 ≤ n) : nI (n - 1) - nI 1 = nI (n - 2) := by rw [nI_sub (by omega)]; congr 1
set_option maxHeartbeats 4000000 in
set_option maxRecDepth 100000 in
theorem c_T_work_l {g : Gl} {d ks : Nat} {h : AH} {q q1 q2 L lv : Nat} {ky lvI a b c : Int32} {f fs : Nat → Int32} (hd : 1 ≤ d) (he : h[q]? = some (ob 5 [.int ky, .int lvI, .ref (g.1 + q1), .ref (g.1 + q2)])) (h1 : h[q1]? = some (ia g L f)) (h2 : h[q2]? = some (ia g lv fs)) (hw : wfO (opC f a b c) L lv) (hq1 : ¬ q2 = q) (hq2 : ¬ q2 = q1) : ∀ (m k : Nat) (o6 : Option Value), k + m = L → Ex g mX5_work d 0 ks 6 [some (.ref (g.1 + q)), some (.int a), some (.int b), some (.int c), some (.int (nI (dpt (opC f a b c) k))), some (.int (nI (k))), o6] [] (h.set q2 (ia g lv (pil (opC f a b c) fs k))) (qi (fun h' r => h' = h.set q2 (ia g lv (pil (opC f a b c) fs L)) ∧ r = pil (opC f a b c) fs L 0)) := by
  have hL := hw.2.2.1
  have hlv := hw.2.2.2
  intro m
  induction m with
  | zero =>
    intro k o6 hk
    have hdk := dpt_le hw k (by omega)
    have he := gs_ne (c := ia g lv (pil (opC f a b c) fs k)) hq1 he
    have h1 := gs_ne (c := ia g lv (pil (opC f a b c) fs k)) hq2 h1
    have h2 := gs_eq (c := ia g lv (pil (opC f a b c) fs k)) h2
    have hd1 : 1 ≤ dpt (opC f a b c) k := by rw [show k = L by omega]; exact hw.2.1
    refine ex_iload (pc := 6) dX5_work_6 rfl ?_
    refine ex_aload_n (pc := 8) dX5_work_8 rfl ?_
    refine ex_get (pc := 9) dX5_work_9 fl_X5_16 he rfl ?_
    refine ex_ialen (pc := 12) dX5_work_12 h1 ?_
    refine bx_icmp_ge_t (pc := 13) (tgt := 181) dX5_work_13 (by decide) (by rw [show k = L by omega]; exact Int32.le_refl _) ?_
    refine ex_iload (pc := 181) dX5_work_181 rfl ?_
    refine ex_iconst (pc := 183) (v := (nI 1)) dX5_work_183 (by decide) ?_
    refine bx_icmp_ge_t (pc := 184) (tgt := 191) dX5_work_184 (by decide) (nI_le (by rw [show k = L by omega]; exact hw.2.1) (by omega)) ?_
    refine ex_aload_n (pc := 191) dX5_work_191 rfl ?_
    refine ex_get (pc := 192) dX5_work_192 fl_X5_26 he rfl ?_
    refine ex_iconst (pc := 195) (v := (nI 0)) dX5_work_195 (by decide) ?_
    refine ex_ildn (k := 0) (pc := 196) dX5_work_196 h2 rfl (by omega) (by omega) ?_
    refine ex_ret dX5_work_197 rfl ?_
    obtain rfl : k = L := by omega
    exact qi_mk ⟨rfl, rfl⟩
  | succ m ih =>
    intro k o6 hk
    have hdk := dpt_le hw k (by omega)
    obtain ⟨w0, w1, w2⟩ := hw.1 k (by omega)
    have he := gs_ne (c := ia g lv (pil (opC f a b c) fs k)) hq1 he
    have h1 := gs_ne (c := ia g lv (pil (opC f a b c) fs k)) hq2 h1
    have h2 := gs_eq (c := ia g lv (pil (opC f a b c) fs k)) h2
    have fin0 : ∀ (v : Int32) (o : Option Value), (opC f a b c) k = (0, v) → Ex g mX5_work d 0 ks 6 [some (.ref (g.1 + q)), some (.int a), some (.int b), some (.int c), some (.int (nI (dpt (opC f a b c) k + 1))), some (.int (nI (k + 1))), o] [] (h.set q2 (ia g lv (upd (pil (opC f a b c) fs k) (dpt (opC f a b c) k) v))) (qi (fun h' r => h' = h.set q2 (ia g lv (pil (opC f a b c) fs L)) ∧ r = pil (opC f a b c) fs L 0)) := by
      intro v o e
      have z := ih (k + 1) o (by omega)
      rw [(st0 (f := fs) e).1, (st0 (f := fs) e).2] at z
      exact z
    have fin1 : ∀ (o : Option Value), (opC f a b c) k = (1, 0) → Ex g mX5_work d 0 ks 6 [some (.ref (g.1 + q)), some (.int a), some (.int b), some (.int c), some (.int (nI (dpt (opC f a b c) k))), some (.int (nI (k + 1))), o] [] (h.set q2 (ia g lv (upd (pil (opC f a b c) fs k) (dpt (opC f a b c) k - 1) (bI (pil (opC f a b c) fs k (dpt (opC f a b c) k - 1) = 0))))) (qi (fun h' r => h' = h.set q2 (ia g lv (pil (opC f a b c) fs L)) ∧ r = pil (opC f a b c) fs L 0)) := by
      intro o e
      have z := ih (k + 1) o (by omega)
      rw [(st1 (f := fs) e).1, (st1 (f := fs) e).2] at z
      exact z
    have fin2 : ∀ (v : Int32) (o : Option Value), (opC f a b c) k = (2, v) → Ex g mX5_work d 0 ks 6 [some (.ref (g.1 + q)), some (.int a), some (.int b), some (.int c), some (.int (nI (dpt (opC f a b c) k - 1))), some (.int (nI (k + 1))), o] [] (h.set q2 (ia g lv (upd (pil (opC f a b c) fs k) (dpt (opC f a b c) k - 2) (jnd v (pil (opC f a b c) fs k (dpt (opC f a b c) k - 2)) (pil (opC f a b c) fs k (dpt (opC f a b c) k - 1)))))) (qi (fun h' r => h' = h.set q2 (ia g lv (pil (opC f a b c) fs L)) ∧ r = pil (opC f a b c) fs L 0)) := by
      intro v o e
      have z := ih (k + 1) o (by omega)
      rw [(st2 (f := fs) e).1, (st2 (f := fs) e).2] at z
      exact z
    clear ih
    refine ex_iload (pc := 6) dX5_work_6 rfl ?_
    refine ex_aload_n (pc := 8) dX5_work_8 rfl ?_
    refine ex_get (pc := 9) dX5_work_9 fl_X5_16 he rfl ?_
    refine ex_ialen (pc := 12) dX5_work_12 h1 ?_
    refine bx_icmp_ge_f (pc := 13) (tgt := 181) dX5_work_13 (by decide) (nI_ge (by omega) (by omega)) ?_
    refine ex_aload_n (pc := 16) dX5_work_16 rfl ?_
    refine ex_get (pc := 17) dX5_work_17 fl_X5_16 he rfl ?_
    refine ex_iload (pc := 20) dX5_work_20 rfl ?_
    refine ex_ildn (k := k) (pc := 22) dX5_work_22 h1 rfl (by omega) (by omega) ?_
    refine sx_istore (pc := 23) dX5_work_23 rfl (by decide) ?_
    show Ex _ _ _ _ _ _ [_, _, _, _, _, _, _] _ _ _
    refine ex_iload (pc := 25) dX5_work_25 rfl ?_
    refine ex_bipush (pc := 27) (v := (-3)) dX5_work_27 (by decide) ?_
    refine ex_icmp_lt (pc := 29) (tgt := 89) dX5_work_29 (by decide) (fun c_29 => ?_) (fun c_29 => ?_)
    · skip
      refine ex_iload (pc := 89) dX5_work_89 rfl ?_
      refine ex_bipush (pc := 91) (v := (-33)) dX5_work_91 (by decide) ?_
      refine ex_icmp_ne (pc := 93) (tgt := 133) dX5_work_93 (by decide) (fun c_93 => ?_) (fun c_93 => ?_)
      · skip
        refine ex_iload (pc := 133) dX5_work_133 rfl ?_
        refine ex_iconst (pc := 135) (v := (nI 2)) dX5_work_135 (by decide) ?_
        refine bx_icmp_ge_t (pc := 136) (tgt := 141) dX5_work_136 (by decide) (nI_le (w2 (by rw [op_j c_29 c_93]; simp) (by rw [op_j c_29 c_93]; simp)) (by omega)) ?_
        have hd2 := w2 (by rw [op_j c_29 c_93]; simp) (by rw [op_j c_29 c_93]; simp)
        refine ex_iinc (pc := 141) (v := nI (dpt (opC f a b c) k - 1)) dX5_work_141 rfl (pk_m1d (by omega)) rfl (by decide) ?_
        show Ex _ _ _ _ _ _ [_, _, _, _, _, _, _] _ _ _
        refine ex_aload_n (pc := 144) dX5_work_144 rfl ?_
        refine ex_get (pc := 145) dX5_work_145 fl_X5_26 he rfl ?_
        refine ex_iload (pc := 148) dX5_work_148 rfl ?_
        refine ex_iconst (pc := 150) (v := (nI 1)) dX5_work_150 (by decide) ?_
        refine ex_isub (pc := 151) dX5_work_151 ?_
        refine ex_iload (pc := 152) dX5_work_152 rfl ?_
        refine ex_ineg (pc := 154) dX5_work_154 ?_
        refine ex_aload_n (pc := 155) dX5_work_155 rfl ?_
        refine ex_get (pc := 156) dX5_work_156 fl_X5_26 he rfl ?_
        refine ex_iload (pc := 159) dX5_work_159 rfl ?_
        refine ex_iconst (pc := 161) (v := (nI 1)) dX5_work_161 (by decide) ?_
        refine ex_isub (pc := 162) dX5_work_162 ?_
        refine ex_ildn (k := dpt (opC f a b c) k - 2) (pc := 163) dX5_work_163 h2 (nI_m2 (by omega)) (by omega) (by omega) ?_
        refine ex_aload_n (pc := 164) dX5_work_164 rfl ?_
        refine ex_get (pc := 165) dX5_work_165 fl_X5_26 he rfl ?_
        refine ex_iload (pc := 168) dX5_work_168 rfl ?_
        refine ex_ildn (k := dpt (opC f a b c) k - 1) (pc := 170) dX5_work_170 h2 rfl (by omega) (by omega) ?_
        refine cx_SL3i (pc := 171) dX5_work_171 lk_X5_29 rfl (Nat.le_of_ble_eq_true rfl) (Nat.le_of_ble_eq_true rfl) (by omega) (c_T_join _ _ _) (fun h_171 x_171 q_171 => ?_)
        obtain ⟨e_171, rfl⟩ := q_171
        rw [e_171]
        refine ex_istn (k := dpt (opC f a b c) k - 2) (pc := 174) dX5_work_174 h2 (nI_m2 (by omega)) (by omega) (by omega) ?_
        first | refine sx_inc (pc := 175) dX5_work_175 rfl rfl (by decide) ?_ | refine sx_iinc (pc := 175) dX5_work_175 rfl rfl (by decide) ?_
        show Ex _ _ _ _ _ _ [_, _, _, _, _, _, _] _ _ _
        refine ex_goto (pc := 178) (tgt := 6) dX5_work_178 (by decide) ?_
        rw [List.set_set]
        first
        | exact fin0 (f k) _ (op_n c_29 c_52)
        | exact fin0 a _ (op_a c_63)
        | exact fin0 b _ (op_b c_74)
        | exact fin0 c _ (op_c c_29 c_52 c_63 c_74)
        | exact fin1 _ (op_t c_93)
        | exact fin2 _ _ (op_j c_29 c_93)
      · skip
        refine ex_iload (pc := 96) dX5_work_96 rfl ?_
        refine ex_iconst (pc := 98) (v := (nI 1)) dX5_work_98 (by decide) ?_
        refine bx_icmp_ge_t (pc := 99) (tgt := 104) dX5_work_99 (by decide) (nI_le (w1 (by rw [op_t c_93])) (by omega)) ?_
        have hd1 := w1 (by rw [op_t c_93])
        refine ex_aload_n (pc := 104) dX5_work_104 rfl ?_
        refine ex_get (pc := 105) dX5_work_105 fl_X5_26 he rfl ?_
        refine ex_iload (pc := 108) dX5_work_108 rfl ?_
        refine ex_iconst (pc := 110) (v := (nI 1)) dX5_work_110 (by decide) ?_
        refine ex_isub (pc := 111) dX5_work_111 ?_
        refine ex_aload_n (pc := 112) dX5_work_112 rfl ?_
        refine ex_get (pc := 113) dX5_work_113 fl_X5_26 he rfl ?_
        refine ex_iload (pc := 116) dX5_work_116 rfl ?_
        refine ex_iconst (pc := 118) (v := (nI 1)) dX5_work_118 (by decide) ?_
        refine ex_isub (pc := 119) dX5_work_119 ?_
        refine ex_ildn (k := dpt (opC f a b c) k - 1) (pc := 120) dX5_work_120 h2 (nI_sub (by omega)) (by omega) (by omega) ?_
        refine ex_if_ne (pc := 121) (tgt := 128) dX5_work_121 (by decide) (fun c_121 => ?_) (fun c_121 => ?_)
        · skip
          refine ex_iconst (pc := 128) (v := (bI (pil (opC f a b c) fs k (dpt (opC f a b c) k - 1) = 0))) dX5_work_128 (by rw [bI_f c_121]; rfl) ?_
          refine ex_istn (k := dpt (opC f a b c) k - 1) (pc := 129) dX5_work_129 h2 (nI_sub (by omega)) (by omega) (by omega) ?_
          refine ex_goto (pc := 130) (tgt := 175) dX5_work_130 (by decide) ?_
          first | refine sx_inc (pc := 175) dX5_work_175 rfl rfl (by decide) ?_ | refine sx_iinc (pc := 175) dX5_work_175 rfl rfl (by decide) ?_
          show Ex _ _ _ _ _ _ [_, _, _, _, _, _, _] _ _ _
          refine ex_goto (pc := 178) (tgt := 6) dX5_work_178 (by decide) ?_
          rw [List.set_set]
          first
          | exact fin0 (f k) _ (op_n c_29 c_52)
          | exact fin0 a _ (op_a c_63)
          | exact fin0 b _ (op_b c_74)
          | exact fin0 c _ (op_c c_29 c_52 c_63 c_74)
          | exact fin1 _ (op_t c_93)
          | exact fin2 _ _ (op_j c_29 c_93)
        · skip
          refine ex_iconst (pc := 124) (v := (bI (pil (opC f a b c) fs k (dpt (opC f a b c) k - 1) = 0))) dX5_work_124 (by rw [bI_t c_121]; rfl) ?_
          refine ex_goto (pc := 125) (tgt := 129) dX5_work_125 (by decide) ?_
          refine ex_istn (k := dpt (opC f a b c) k - 1) (pc := 129) dX5_work_129 h2 (nI_sub (by omega)) (by omega) (by omega) ?_
          refine ex_goto (pc := 130) (tgt := 175) dX5_work_130 (by decide) ?_
          first | refine sx_inc (pc := 175) dX5_work_175 rfl rfl (by decide) ?_ | refine sx_iinc (pc := 175) dX5_work_175 rfl rfl (by decide) ?_
          show Ex _ _ _ _ _ _ [_, _, _, _, _, _, _] _ _ _
          refine ex_goto (pc := 178) (tgt := 6) dX5_work_178 (by decide) ?_
          rw [List.set_set]
          first
          | exact fin0 (f k) _ (op_n c_29 c_52)
          | exact fin0 a _ (op_a c_63)
          | exact fin0 b _ (op_b c_74)
          | exact fin0 c _ (op_c c_29 c_52 c_63 c_74)
          | exact fin1 _ (op_t c_93)
          | exact fin2 _ _ (op_j c_29 c_93)
    · skip
      have ztag : ((opC f a b c) k).1 = 0 := by unfold opC; rw [if_pos (Int32.not_lt.mp c_29)]
      refine ex_iload (pc := 32) dX5_work_32 rfl ?_
      refine ex_aload_n (pc := 34) dX5_work_34 rfl ?_
      refine ex_get (pc := 35) dX5_work_35 fl_X5_26 he rfl ?_
      refine ex_ialen (pc := 38) dX5_work_38 h2 ?_
      refine bx_icmp_lt_t (pc := 39) (tgt := 44) dX5_work_39 (by decide) (nI_lt (w0 ztag) (by omega)) ?_
      have hd0 := w0 ztag
      refine ex_aload_n (pc := 44) dX5_work_44 rfl ?_
      refine ex_get (pc := 45) dX5_work_45 fl_X5_26 he rfl ?_
      refine ex_iload (pc := 48) dX5_work_48 rfl ?_
      refine ex_iload (pc := 50) dX5_work_50 rfl ?_
      refine ex_if_lt (pc := 52) (tgt := 60) dX5_work_52 (by decide) (fun c_52 => ?_) (fun c_52 => ?_)
      · skip
        refine ex_iload (pc := 60) dX5_work_60 rfl ?_
        refine ex_iconst (pc := 62) (v := (-1)) dX5_work_62 (by decide) ?_
        refine ex_icmp_ne (pc := 63) (tgt := 70) dX5_work_63 (by decide) (fun c_63 => ?_) (fun c_63 => ?_)
        · skip
          refine ex_iload (pc := 70) dX5_work_70 rfl ?_
          refine ex_bipush (pc := 72) (v := (-2)) dX5_work_72 (by decide) ?_
          refine ex_icmp_ne (pc := 74) (tgt := 81) dX5_work_74 (by decide) (fun c_74 => ?_) (fun c_74 => ?_)
          · skip
            refine ex_iload_n (pc := 81) dX5_work_81 rfl ?_
            refine ex_istn (k := dpt (opC f a b c) k) (pc := 82) dX5_work_82 h2 rfl (by omega) (by omega) ?_
            first | refine sx_inc (pc := 83) dX5_work_83 rfl rfl (by decide) ?_ | refine sx_iinc (pc := 83) dX5_work_83 rfl rfl (by decide) ?_
            show Ex _ _ _ _ _ _ [_, _, _, _, _, _, _] _ _ _
            refine ex_goto (pc := 86) (tgt := 175) dX5_work_86 (by decide) ?_
            first | refine sx_inc (pc := 175) dX5_work_175 rfl rfl (by decide) ?_ | refine sx_iinc (pc := 175) dX5_work_175 rfl rfl (by decide) ?_
            show Ex _ _ _ _ _ _ [_, _, _, _, _, _, _] _ _ _
            refine ex_goto (pc := 178) (tgt := 6) dX5_work_178 (by decide) ?_
            rw [List.set_set]
            first
            | exact fin0 (f k) _ (op_n c_29 c_52)
            | exact fin0 a _ (op_a c_63)
            | exact fin0 b _ (op_b c_74)
            | exact fin0 c _ (op_c c_29 c_52 c_63 c_74)
            | exact fin1 _ (op_t c_93)
            | exact fin2 _ _ (op_j c_29 c_93)
          · skip
            refine ex_iload_n (pc := 77) dX5_work_77 rfl ?_
            refine ex_goto (pc := 78) (tgt := 82) dX5_work_78 (by decide) ?_
            refine ex_istn (k := dpt (opC f a b c) k) (pc := 82) dX5_work_82 h2 rfl (by omega) (by omega) ?_
            first | refine sx_inc (pc := 83) dX5_work_83 rfl rfl (by decide) ?_ | refine sx_iinc (pc := 83) dX5_work_83 rfl rfl (by decide) ?_
            show Ex _ _ _ _ _ _ [_, _, _, _, _, _, _] _ _ _
            refine ex_goto (pc := 86) (tgt := 175) dX5_work_86 (by decide) ?_
            first | refine sx_inc (pc := 175) dX5_work_175 rfl rfl (by decide) ?_ | refine sx_iinc (pc := 175) dX5_work_175 rfl rfl (by decide) ?_
            show Ex _ _ _ _ _ _ [_, _, _, _, _, _, _] _ _ _
            refine ex_goto (pc := 178) (tgt := 6) dX5_work_178 (by decide) ?_
            rw [List.set_set]
            first
            | exact fin0 (f k) _ (op_n c_29 c_52)
            | exact fin0 a _ (op_a c_63)
            | exact fin0 b _ (op_b c_74)
            | exact fin0 c _ (op_c c_29 c_52 c_63 c_74)
            | exact fin1 _ (op_t c_93)
            | exact fin2 _ _ (op_j c_29 c_93)
        · skip
          refine ex_iload_n (pc := 66) dX5_work_66 rfl ?_
          refine ex_goto (pc := 67) (tgt := 82) dX5_work_67 (by decide) ?_
          refine ex_istn (k := dpt (opC f a b c) k) (pc := 82) dX5_work_82 h2 rfl (by omega) (by omega) ?_
          first | refine sx_inc (pc := 83) dX5_work_83 rfl rfl (by decide) ?_ | refine sx_iinc (pc := 83) dX5_work_83 rfl rfl (by decide) ?_
          show Ex _ _ _ _ _ _ [_, _, _, _, _, _, _] _ _ _
          refine ex_goto (pc := 86) (tgt := 175) dX5_work_86 (by decide) ?_
          first | refine sx_inc (pc := 175) dX5_work_175 rfl rfl (by decide) ?_ | refine sx_iinc (pc := 175) dX5_work_175 rfl rfl (by decide) ?_
          show Ex _ _ _ _ _ _ [_, _, _, _, _, _, _] _ _ _
          refine ex_goto (pc := 178) (tgt := 6) dX5_work_178 (by decide) ?_
          rw [List.set_set]
          first
          | exact fin0 (f k) _ (op_n c_29 c_52)
          | exact fin0 a _ (op_a c_63)
          | exact fin0 b _ (op_b c_74)
          | exact fin0 c _ (op_c c_29 c_52 c_63 c_74)
          | exact fin1 _ (op_t c_93)
          | exact fin2 _ _ (op_j c_29 c_93)
      · skip
        refine ex_iload (pc := 55) dX5_work_55 rfl ?_
        refine ex_goto (pc := 57) (tgt := 82) dX5_work_57 (by decide) ?_
        refine ex_istn (k := dpt (opC f a b c) k) (pc := 82) dX5_work_82 h2 rfl (by omega) (by omega) ?_
        first | refine sx_inc (pc := 83) dX5_work_83 rfl rfl (by decide) ?_ | refine sx_iinc (pc := 83) dX5_work_83 rfl rfl (by decide) ?_
        show Ex _ _ _ _ _ _ [_, _, _, _, _, _, _] _ _ _
        refine ex_goto (pc := 86) (tgt := 175) dX5_work_86 (by decide) ?_
        first | refine sx_inc (pc := 175) dX5_work_175 rfl rfl (by decide) ?_ | refine sx_iinc (pc := 175) dX5_work_175 rfl rfl (by decide) ?_
        show Ex _ _ _ _ _ _ [_, _, _, _, _, _, _] _ _ _
        refine ex_goto (pc := 178) (tgt := 6) dX5_work_178 (by decide) ?_
        rw [List.set_set]
        first
        | exact fin0 (f k) _ (op_n c_29 c_52)
        | exact fin0 a _ (op_a c_63)
        | exact fin0 b _ (op_b c_74)
        | exact fin0 c _ (op_c c_29 c_52 c_63 c_74)
        | exact fin1 _ (op_t c_93)
        | exact fin2 _ _ (op_j c_29 c_93)
set_option maxHeartbeats 4000000 in
set_option maxRecDepth 100000 in
theorem c_T_work {g : Gl} {d ks : Nat} {h : AH} {q q1 q2 L lv : Nat} {ky lvI a b c : Int32} {f fs : Nat → Int32} (hd : 1 ≤ d) (he : h[q]? = some (ob 5 [.int ky, .int lvI, .ref (g.1 + q1), .ref (g.1 + q2)])) (h1 : h[q1]? = some (ia g L f)) (h2 : h[q2]? = some (ia g lv fs)) (hw : wfO (opC f a b c) L lv) (hq1 : ¬ q2 = q) (hq2 : ¬ q2 = q1) : Ex g mX5_work d 0 ks 0 [some (.ref (g.1 + q)), some (.int a), some (.int b), some (.int c), none, none, none] [] h (qi (fun h' r => h' = h.set q2 (ia g lv (pil (opC f a b c) fs L)) ∧ r = pil (opC f a b c) fs L 0)) := by
  refine ex_iconst (pc := 0) (v := (nI 0)) dX5_work_0 (by decide) ?_
  refine sx_istore (pc := 1) dX5_work_1 rfl (by decide) ?_
  show Ex _ _ _ _ _ _ [_, _, _, _, _, _, _] _ _ _
  refine ex_iconst (pc := 3) (v := (nI 0)) dX5_work_3 (by decide) ?_
  refine sx_istore (pc := 4) dX5_work_4 rfl (by decide) ?_
  show Ex _ _ _ _ _ _ [_, _, _, _, _, _, _] _ _ _
  have z := c_T_work_l (d := d) (ks := ks) hd he h1 h2 hw hq1 hq2 L 0 none (by omega)
  rw [show pil (opC f a b c) fs 0 = fs from rfl, set_same h2] at z
  exact z
/-- the reference's text t: L steps, what and v of each; the names it uses are letters -/
def TxM (s : Nat → Int32) (t L : Nat) (wh v : Nat → Int32) : Prop := s (90 + 200 * t + 2) = nI L ∧ L ≤ 96 ∧ (∀ k, k < L → wh k = s (90 + 200 * t + 4 + 2 * k) ∧ v k = s (90 + 200 * t + 4 + 2 * k + 1)) ∧ ∀ k, k < L → (wh k = nI 0 ∨ wh k = nI 1 ∨ wh k = nI 2) ∧ (wh k = nI 1 → ∃ x : Nat, x < 128 ∧ v k = nI x) ∧ (wh k = nI 2 → v k = nI 33 ∨ sgn9 (v k))
section OPM
variable {wh v nm : Nat → Int32} {k : Nat}
theorem om_n (h : ¬ wh k = nI 2) (h0 : wh k = nI 0) : opM wh v nm k = (0, v k) := by unfold opM; rw [if_neg h, if_pos h0]
theorem om_m (h : ¬ wh k = nI 2) (h0 : ¬ wh k = nI 0) {x : Nat} (hx : x < 128) (e : v k = nI x) : opM wh v nm k = (0, nm x) := by unfold opM; rw [if_neg h, if_neg h0, e, nI_clamp (by omega)]
theorem om_t (h : wh k = nI 2) (h1 : v k = nI 33) : opM wh v nm k = (1, 0) := by unfold opM; rw [if_pos h, if_pos h1]
theorem om_j (h : wh k = nI 2) (h1 : ¬ v k = nI 33) : opM wh v nm k = (2, v k) := by unfold opM; rw [if_pos h, if_neg h1]
end OPM
set_option maxHeartbeats 4000000 in
set_option maxRecDepth 100000 in
theorem c_M_worked_l {g : Gl} {d ks : Nat} {h : AH} {z s : Nat → Int32} (hM : Ms g h z s) {t L lv : Nat} {wh v nm fs : Nat → Int32} (hd : 1 ≤ d) (ht : t < 14) (h1 : h[90]? = some (ia g 128 nm)) (h2 : h[91]? = some (ia g 100 fs)) (hT : TxM s t L wh v) (hw : wfO (opM wh v nm) L lv) (hlv : lv ≤ 96) : ∀ (m k : Nat) (o4 o5 : Option Value), k + m = L → okS [some (.ref (g.1 + 75)), some (.int (nI t)), some (.int 0), some (.int 0), o4, o5] 5 = true → Ex g mX7_worked d 0 ks 4 [some (.ref (g.1 + 75)), some (.int (nI t)), some (.int (nI (dpt (opM wh v nm) k))), some (.int (nI (k))), o4, o5] [] (h.set 91 (ia g 100 (pil (opM wh v nm) fs k))) (qi (fun h' r => h' = h.set 91 (ia g 100 (pil (opM wh v nm) fs L)) ∧ r = pil (opM wh v nm) fs L 0)) := by
  have hL := hw.2.2.1
  intro m
  induction m with
  | zero =>
    intro k o4 o5 hk hok
    have hdk := dpt_le hw k (by omega)
    have hm := gs_ne (q := 91) (c := (ia g 100 (pil (opM wh v nm) fs k))) (by decide) hM.1
    have hs := gs_ne (q := 91) (c := (ia g 100 (pil (opM wh v nm) fs k))) (by decide) hM.2
    have h2 := gs_eq (c := (ia g 100 (pil (opM wh v nm) fs k))) h2
    have hd1 : 1 ≤ dpt (opM wh v nm) k := by rw [show k = L by omega]; exact hw.2.1
    refine ex_iload_n (pc := 4) dX7_worked_4 rfl ?_
    refine ex_aload_n (pc := 5) dX7_worked_5 rfl ?_
    refine ex_get (pc := 6) dX7_worked_6 fl_X7_7 hm rfl ?_
    refine ex_aload_n (pc := 9) dX7_worked_9 rfl ?_
    refine ex_iload_n (pc := 10) dX7_worked_10 rfl ?_
    refine cx_VL1i (pc := 11) dX7_worked_11 lk_X7_354 hm rfl (Nat.le_of_ble_eq_true rfl) (Nat.le_of_ble_eq_true rfl) (by omega) (c_M_textAt _) (fun h_11 x_11 q_11 => ?_)
    obtain ⟨e_11, rfl⟩ := q_11
    rw [e_11]
    refine ex_iconst (pc := 14) (v := (nI 2)) dX7_worked_14 (by decide) ?_
    refine ex_iadd (pc := 15) dX7_worked_15 ?_
    refine ex_ildn (k := 90 + 200 * t + 2) (pc := 16) dX7_worked_16 hs (by simp only [nI_mul, nI_add]) (by omega) (by decide) ?_
    refine bx_icmp_ge_t (pc := 17) (tgt := 163) dX7_worked_17 (by decide) (by rw [hT.1, show k = L by omega]; exact Int32.le_refl _) ?_
    refine ex_aload_n (pc := 163) dX7_worked_163 rfl ?_
    refine ex_get (pc := 164) dX7_worked_164 fl_X7_56 hm rfl ?_
    refine ex_iconst (pc := 167) (v := (nI 0)) dX7_worked_167 (by decide) ?_
    refine ex_ildn (k := 0) (pc := 168) dX7_worked_168 h2 rfl (by omega) (by decide) ?_
    refine ex_ret dX7_worked_169 rfl ?_
    obtain rfl : k = L := by omega
    exact qi_mk ⟨rfl, rfl⟩
  | succ m ih =>
    intro k o4 o5 hk hok
    have hdk := dpt_le hw k (by omega)
    obtain ⟨w0, w1, w2⟩ := hw.1 k (by omega)
    have hm := gs_ne (q := 91) (c := (ia g 100 (pil (opM wh v nm) fs k))) (by decide) hM.1
    have hs := gs_ne (q := 91) (c := (ia g 100 (pil (opM wh v nm) fs k))) (by decide) hM.2
    have h1 := gs_ne (q := 91) (c := (ia g 100 (pil (opM wh v nm) fs k))) (by decide) h1
    have h2 := gs_eq (c := (ia g 100 (pil (opM wh v nm) fs k))) h2
    have fin0 : ∀ (u x4 x5 : Int32), (opM wh v nm) k = (0, u) → Ex g mX7_worked d 0 ks 4 [some (.ref (g.1 + 75)), some (.int (nI t)), some (.int (nI (dpt (opM wh v nm) k + 1))), some (.int (nI (k + 1))), some (.int x4), some (.int x5)] [] (h.set 91 (ia g 100 (upd (pil (opM wh v nm) fs k) (dpt (opM wh v nm) k) u))) (qi (fun h' r => h' = h.set 91 (ia g 100 (pil (opM wh v nm) fs L)) ∧ r = pil (opM wh v nm) fs L 0)) := by
      intro u x4 x5 e
      have z := ih (k + 1) (some (.int x4)) (some (.int x5)) (by omega) rfl
      rw [(st0 (f := fs) e).1, (st0 (f := fs) e).2] at z
      exact z
    have fin1 : ∀ (x4 x5 : Int32), (opM wh v nm) k = (1, 0) → Ex g mX7_worked d 0 ks 4 [some (.ref (g.1 + 75)), some (.int (nI t)), some (.int (nI (dpt (opM wh v nm) k))), some (.int (nI (k + 1))), some (.int x4), some (.int x5)] [] (h.set 91 (ia g 100 (upd (pil (opM wh v nm) fs k) (dpt (opM wh v nm) k - 1) (bI (pil (opM wh v nm) fs k (dpt (opM wh v nm) k - 1) = 0))))) (qi (fun h' r => h' = h.set 91 (ia g 100 (pil (opM wh v nm) fs L)) ∧ r = pil (opM wh v nm) fs L 0)) := by
      intro x4 x5 e
      have z := ih (k + 1) (some (.int x4)) (some (.int x5)) (by omega) rfl
      rw [(st1 (f := fs) e).1, (st1 (f := fs) e).2] at z
      exact z
    have fin2 : ∀ (u x4 x5 : Int32), (opM wh v nm) k = (2, u) → Ex g mX7_worked d 0 ks 4 [some (.ref (g.1 + 75)), some (.int (nI t)), some (.int (nI (dpt (opM wh v nm) k - 1))), some (.int (nI (k + 1))), some (.int x4), some (.int x5)] [] (h.set 91 (ia g 100 (upd (pil (opM wh v nm) fs k) (dpt (opM wh v nm) k - 2) (jnd u (pil (opM wh v nm) fs k (dpt (opM wh v nm) k - 2)) (pil (opM wh v nm) fs k (dpt (opM wh v nm) k - 1)))))) (qi (fun h' r => h' = h.set 91 (ia g 100 (pil (opM wh v nm) fs L)) ∧ r = pil (opM wh v nm) fs L 0)) := by
      intro u x4 x5 e
      have z := ih (k + 1) (some (.int x4)) (some (.int x5)) (by omega) rfl
      rw [(st2 (f := fs) e).1, (st2 (f := fs) e).2] at z
      exact z
    clear ih
    refine ex_iload_n (pc := 4) dX7_worked_4 rfl ?_
    refine ex_aload_n (pc := 5) dX7_worked_5 rfl ?_
    refine ex_get (pc := 6) dX7_worked_6 fl_X7_7 hm rfl ?_
    refine ex_aload_n (pc := 9) dX7_worked_9 rfl ?_
    refine ex_iload_n (pc := 10) dX7_worked_10 rfl ?_
    refine cx_VL1i (pc := 11) dX7_worked_11 lk_X7_354 hm rfl (Nat.le_of_ble_eq_true rfl) (Nat.le_of_ble_eq_true rfl) (by omega) (c_M_textAt _) (fun h_11 x_11 q_11 => ?_)
    obtain ⟨e_11, rfl⟩ := q_11
    rw [e_11]
    refine ex_iconst (pc := 14) (v := (nI 2)) dX7_worked_14 (by decide) ?_
    refine ex_iadd (pc := 15) dX7_worked_15 ?_
    refine ex_ildn (k := 90 + 200 * t + 2) (pc := 16) dX7_worked_16 hs (by simp only [nI_mul, nI_add]) (by omega) (by decide) ?_
    refine bx_icmp_ge_f (pc := 17) (tgt := 163) dX7_worked_17 (by decide) (by rw [hT.1]; exact nI_ge (by omega) (by omega)) ?_
    refine ex_aload_n (pc := 20) dX7_worked_20 rfl ?_
    refine ex_get (pc := 21) dX7_worked_21 fl_X7_7 hm rfl ?_
    refine ex_aload_n (pc := 24) dX7_worked_24 rfl ?_
    refine ex_iload_n (pc := 25) dX7_worked_25 rfl ?_
    refine cx_VL1i (pc := 26) dX7_worked_26 lk_X7_354 hm rfl (Nat.le_of_ble_eq_true rfl) (Nat.le_of_ble_eq_true rfl) (by omega) (c_M_textAt _) (fun h_26 x_26 q_26 => ?_)
    obtain ⟨e_26, rfl⟩ := q_26
    rw [e_26]
    refine ex_iconst (pc := 29) (v := (nI 4)) dX7_worked_29 (by decide) ?_
    refine ex_iadd (pc := 30) dX7_worked_30 ?_
    refine ex_iconst (pc := 31) (v := (nI 2)) dX7_worked_31 (by decide) ?_
    refine ex_iload_n (pc := 32) dX7_worked_32 rfl ?_
    refine ex_imul (pc := 33) dX7_worked_33 ?_
    refine ex_iadd (pc := 34) dX7_worked_34 ?_
    refine ex_ildn (k := 90 + 200 * t + 4 + 2 * k) (pc := 35) dX7_worked_35 hs (by simp only [nI_mul, nI_add]) (by omega) (by decide) ?_
    rw [← (hT.2.2.1 k (by omega)).1]
    refine sx_istore (pc := 36) dX7_worked_36 rfl (by decide) ?_
    show Ex _ _ _ _ _ _ [_, _, _, _, _, _] _ _ _
    refine ex_aload_n (pc := 38) dX7_worked_38 rfl ?_
    refine ex_get (pc := 39) dX7_worked_39 fl_X7_7 hm rfl ?_
    refine ex_aload_n (pc := 42) dX7_worked_42 rfl ?_
    refine ex_iload_n (pc := 43) dX7_worked_43 rfl ?_
    refine cx_VL1i (pc := 44) dX7_worked_44 lk_X7_354 hm rfl (Nat.le_of_ble_eq_true rfl) (Nat.le_of_ble_eq_true rfl) (by omega) (c_M_textAt _) (fun h_44 x_44 q_44 => ?_)
    obtain ⟨e_44, rfl⟩ := q_44
    rw [e_44]
    refine ex_iconst (pc := 47) (v := (nI 4)) dX7_worked_47 (by decide) ?_
    refine ex_iadd (pc := 48) dX7_worked_48 ?_
    refine ex_iconst (pc := 49) (v := (nI 2)) dX7_worked_49 (by decide) ?_
    refine ex_iload_n (pc := 50) dX7_worked_50 rfl ?_
    refine ex_imul (pc := 51) dX7_worked_51 ?_
    refine ex_iadd (pc := 52) dX7_worked_52 ?_
    refine ex_iconst (pc := 53) (v := (nI 1)) dX7_worked_53 (by decide) ?_
    refine ex_iadd (pc := 54) dX7_worked_54 ?_
    refine ex_ildn (k := 90 + 200 * t + 4 + 2 * k + 1) (pc := 55) dX7_worked_55 hs (by simp only [nI_mul, nI_add]) (by omega) (by decide) ?_
    rw [← (hT.2.2.1 k (by omega)).2]
    refine sx_istore (pc := 56) dX7_worked_56 rfl (by decide) ?_
    show Ex _ _ _ _ _ _ [_, _, _, _, _, _] _ _ _
    refine ex_iload (pc := 58) dX7_worked_58 rfl ?_
    refine ex_iconst (pc := 60) (v := (nI 2)) dX7_worked_60 (by decide) ?_
    refine ex_icmp_eq (pc := 61) (tgt := 93) dX7_worked_61 (by decide) (fun c_61 => ?_) (fun c_61 => ?_)
    · skip
      refine ex_iload (pc := 93) dX7_worked_93 rfl ?_
      refine ex_bipush (pc := 95) (v := (nI 33)) dX7_worked_95 (by decide) ?_
      refine ex_icmp_ne (pc := 97) (tgt := 127) dX7_worked_97 (by decide) (fun c_97 => ?_) (fun c_97 => ?_)
      · skip
        have hd2 := w2 (by rw [om_j c_61 c_97]; simp) (by rw [om_j c_61 c_97]; simp)
        have hsg := ((hT.2.2.2 k (by omega)).2.2 c_61).resolve_left c_97
        refine ex_iinc (pc := 127) (v := nI (dpt (opM wh v nm) k - 1)) dX7_worked_127 rfl (pk_m1d (by omega)) rfl (by decide) ?_
        show Ex _ _ _ _ _ _ [_, _, _, _, _, _] _ _ _
        refine ex_aload_n (pc := 130) dX7_worked_130 rfl ?_
        refine ex_get (pc := 131) dX7_worked_131 fl_X7_56 hm rfl ?_
        refine ex_iload_n (pc := 134) dX7_worked_134 rfl ?_
        refine ex_iconst (pc := 135) (v := (nI 1)) dX7_worked_135 (by decide) ?_
        refine ex_isub (pc := 136) dX7_worked_136 ?_
        refine ex_iload (pc := 137) dX7_worked_137 rfl ?_
        refine ex_aload_n (pc := 139) dX7_worked_139 rfl ?_
        refine ex_get (pc := 140) dX7_worked_140 fl_X7_56 hm rfl ?_
        refine ex_iload_n (pc := 143) dX7_worked_143 rfl ?_
        refine ex_iconst (pc := 144) (v := (nI 1)) dX7_worked_144 (by decide) ?_
        refine ex_isub (pc := 145) dX7_worked_145 ?_
        refine ex_ildn (k := dpt (opM wh v nm) k - 2) (pc := 146) dX7_worked_146 h2 (nI_m2 (by omega)) (by omega) (by decide) ?_
        refine ex_aload_n (pc := 147) dX7_worked_147 rfl ?_
        refine ex_get (pc := 148) dX7_worked_148 fl_X7_56 hm rfl ?_
        refine ex_iload_n (pc := 151) dX7_worked_151 rfl ?_
        refine ex_ildn (k := dpt (opM wh v nm) k - 1) (pc := 152) dX7_worked_152 h2 rfl (by omega) (by decide) ?_
        refine cx_SL3i (pc := 153) dX7_worked_153 lk_X7_366 rfl (Nat.le_of_ble_eq_true rfl) (Nat.le_of_ble_eq_true rfl) (by omega) (c_M_joined _ _ _ hsg) (fun h_153 x_153 q_153 => ?_)
        obtain ⟨e_153, rfl⟩ := q_153
        rw [e_153]
        refine ex_istn (k := dpt (opM wh v nm) k - 2) (pc := 156) dX7_worked_156 h2 (nI_m2 (by omega)) (by omega) (by decide) ?_
        first | refine sx_inc (pc := 157) dX7_worked_157 rfl rfl (by decide) ?_ | refine sx_iinc (pc := 157) dX7_worked_157 rfl rfl (by decide) ?_
        show Ex _ _ _ _ _ _ [_, _, _, _, _, _] _ _ _
        refine ex_goto (pc := 160) (tgt := 4) dX7_worked_160 (by decide) ?_
        rw [List.set_set]
        first
        | exact fin0 (v k) _ _ (om_n c_61 c_71)
        | exact fin0 (nm x) _ _ (om_m c_61 c_71 hx1 hx2)
        | exact fin1 _ _ (om_t c_61 c_97)
        | exact fin2 _ _ _ (om_j c_61 c_97)
      · skip
        have hd1 := w1 (by rw [om_t c_61 c_97])
        refine ex_aload_n (pc := 100) dX7_worked_100 rfl ?_
        refine ex_get (pc := 101) dX7_worked_101 fl_X7_56 hm rfl ?_
        refine ex_iload_n (pc := 104) dX7_worked_104 rfl ?_
        refine ex_iconst (pc := 105) (v := (nI 1)) dX7_worked_105 (by decide) ?_
        refine ex_isub (pc := 106) dX7_worked_106 ?_
        refine ex_aload_n (pc := 107) dX7_worked_107 rfl ?_
        refine ex_get (pc := 108) dX7_worked_108 fl_X7_56 hm rfl ?_
        refine ex_iload_n (pc := 111) dX7_worked_111 rfl ?_
        refine ex_iconst (pc := 112) (v := (nI 1)) dX7_worked_112 (by decide) ?_
        refine ex_isub (pc := 113) dX7_worked_113 ?_
        refine ex_ildn (k := dpt (opM wh v nm) k - 1) (pc := 114) dX7_worked_114 h2 (nI_sub (by omega)) (by omega) (by decide) ?_
        refine ex_if_ne (pc := 115) (tgt := 122) dX7_worked_115 (by decide) (fun c_115 => ?_) (fun c_115 => ?_)
        · skip
          refine ex_iconst (pc := 122) (v := (bI (pil (opM wh v nm) fs k (dpt (opM wh v nm) k - 1) = 0))) dX7_worked_122 (by rw [bI_f c_115]; rfl) ?_
          refine ex_istn (k := dpt (opM wh v nm) k - 1) (pc := 123) dX7_worked_123 h2 (nI_sub (by omega)) (by omega) (by decide) ?_
          refine ex_goto (pc := 124) (tgt := 157) dX7_worked_124 (by decide) ?_
          first | refine sx_inc (pc := 157) dX7_worked_157 rfl rfl (by decide) ?_ | refine sx_iinc (pc := 157) dX7_worked_157 rfl rfl (by decide) ?_
          show Ex _ _ _ _ _ _ [_, _, _, _, _, _] _ _ _
          refine ex_goto (pc := 160) (tgt := 4) dX7_worked_160 (by decide) ?_
          rw [List.set_set]
          first
          | exact fin0 (v k) _ _ (om_n c_61 c_71)
          | exact fin0 (nm x) _ _ (om_m c_61 c_71 hx1 hx2)
          | exact fin1 _ _ (om_t c_61 c_97)
          | exact fin2 _ _ _ (om_j c_61 c_97)
        · skip
          refine ex_iconst (pc := 118) (v := (bI (pil (opM wh v nm) fs k (dpt (opM wh v nm) k - 1) = 0))) dX7_worked_118 (by rw [bI_t c_115]; rfl) ?_
          refine ex_goto (pc := 119) (tgt := 123) dX7_worked_119 (by decide) ?_
          refine ex_istn (k := dpt (opM wh v nm) k - 1) (pc := 123) dX7_worked_123 h2 (nI_sub (by omega)) (by omega) (by decide) ?_
          refine ex_goto (pc := 124) (tgt := 157) dX7_worked_124 (by decide) ?_
          first | refine sx_inc (pc := 157) dX7_worked_157 rfl rfl (by decide) ?_ | refine sx_iinc (pc := 157) dX7_worked_157 rfl rfl (by decide) ?_
          show Ex _ _ _ _ _ _ [_, _, _, _, _, _] _ _ _
          refine ex_goto (pc := 160) (tgt := 4) dX7_worked_160 (by decide) ?_
          rw [List.set_set]
          first
          | exact fin0 (v k) _ _ (om_n c_61 c_71)
          | exact fin0 (nm x) _ _ (om_m c_61 c_71 hx1 hx2)
          | exact fin1 _ _ (om_t c_61 c_97)
          | exact fin2 _ _ _ (om_j c_61 c_97)
    · skip
      have hd0 := w0 (by unfold opM; rw [if_neg c_61])
      refine ex_aload_n (pc := 64) dX7_worked_64 rfl ?_
      refine ex_get (pc := 65) dX7_worked_65 fl_X7_56 hm rfl ?_
      refine ex_iload_n (pc := 68) dX7_worked_68 rfl ?_
      refine ex_iload (pc := 69) dX7_worked_69 rfl ?_
      refine ex_if_ne (pc := 71) (tgt := 79) dX7_worked_71 (by decide) (fun c_71 => ?_) (fun c_71 => ?_)
      · skip
        obtain ⟨x, hx1, hx2⟩ := (hT.2.2.2 k (by omega)).2.1 ((hT.2.2.2 k (by omega)).1.resolve_left c_71 |>.resolve_right c_61)
        refine ex_aload_n (pc := 79) dX7_worked_79 rfl ?_
        refine ex_get (pc := 80) dX7_worked_80 fl_X7_53 hm rfl ?_
        refine ex_iload (pc := 83) dX7_worked_83 rfl ?_
        refine ex_ildn (k := x) (pc := 85) dX7_worked_85 h1 hx2 hx1 (by decide) ?_
        refine ex_istn (k := dpt (opM wh v nm) k) (pc := 86) dX7_worked_86 h2 rfl (by omega) (by decide) ?_
        first | refine sx_inc (pc := 87) dX7_worked_87 rfl rfl (by decide) ?_ | refine sx_iinc (pc := 87) dX7_worked_87 rfl rfl (by decide) ?_
        show Ex _ _ _ _ _ _ [_, _, _, _, _, _] _ _ _
        refine ex_goto (pc := 90) (tgt := 157) dX7_worked_90 (by decide) ?_
        first | refine sx_inc (pc := 157) dX7_worked_157 rfl rfl (by decide) ?_ | refine sx_iinc (pc := 157) dX7_worked_157 rfl rfl (by decide) ?_
        show Ex _ _ _ _ _ _ [_, _, _, _, _, _] _ _ _
        refine ex_goto (pc := 160) (tgt := 4) dX7_worked_160 (by decide) ?_
        rw [List.set_set]
        first
        | exact fin0 (v k) _ _ (om_n c_61 c_71)
        | exact fin0 (nm x) _ _ (om_m c_61 c_71 hx1 hx2)
        | exact fin1 _ _ (om_t c_61 c_97)
        | exact fin2 _ _ _ (om_j c_61 c_97)
      · skip
        refine ex_iload (pc := 74) dX7_worked_74 rfl ?_
        refine ex_goto (pc := 76) (tgt := 86) dX7_worked_76 (by decide) ?_
        refine ex_istn (k := dpt (opM wh v nm) k) (pc := 86) dX7_worked_86 h2 rfl (by omega) (by decide) ?_
        first | refine sx_inc (pc := 87) dX7_worked_87 rfl rfl (by decide) ?_ | refine sx_iinc (pc := 87) dX7_worked_87 rfl rfl (by decide) ?_
        show Ex _ _ _ _ _ _ [_, _, _, _, _, _] _ _ _
        refine ex_goto (pc := 90) (tgt := 157) dX7_worked_90 (by decide) ?_
        first | refine sx_inc (pc := 157) dX7_worked_157 rfl rfl (by decide) ?_ | refine sx_iinc (pc := 157) dX7_worked_157 rfl rfl (by decide) ?_
        show Ex _ _ _ _ _ _ [_, _, _, _, _, _] _ _ _
        refine ex_goto (pc := 160) (tgt := 4) dX7_worked_160 (by decide) ?_
        rw [List.set_set]
        first
        | exact fin0 (v k) _ _ (om_n c_61 c_71)
        | exact fin0 (nm x) _ _ (om_m c_61 c_71 hx1 hx2)
        | exact fin1 _ _ (om_t c_61 c_97)
        | exact fin2 _ _ _ (om_j c_61 c_97)
set_option maxHeartbeats 4000000 in
set_option maxRecDepth 100000 in
theorem c_M_worked {g : Gl} {d ks : Nat} {h : AH} {z s : Nat → Int32} (hM : Ms g h z s) {t L lv : Nat} {wh v nm fs : Nat → Int32} (hd : 1 ≤ d) (ht : t < 14) (h1 : h[90]? = some (ia g 128 nm)) (h2 : h[91]? = some (ia g 100 fs)) (hT : TxM s t L wh v) (hw : wfO (opM wh v nm) L lv) : Ex g mX7_worked d 0 ks 0 [some (.ref (g.1 + 75)), some (.int (nI t)), none, none, none, none] [] h (qi (fun h' r => h' = h.set 91 (ia g 100 (pil (opM wh v nm) fs L)) ∧ r = pil (opM wh v nm) fs L 0)) := by
  refine ex_iconst (pc := 0) (v := (nI 0)) dX7_worked_0 (by decide) ?_
  refine sx_istore_n (pc := 1) dX7_worked_1 rfl (by decide) ?_
  show Ex _ _ _ _ _ _ [_, _, _, _, _, _] _ _ _
  refine ex_iconst (pc := 2) (v := (nI 0)) dX7_worked_2 (by decide) ?_
  refine sx_istore_n (pc := 3) dX7_worked_3 rfl (by decide) ?_
  show Ex _ _ _ _ _ _ [_, _, _, _, _, _] _ _ _
  have z := c_M_worked_l (d := d) (ks := ks) hM hd ht h1 h2 hT hw hw.2.2.2 L 0 none none (by omega) rfl
  rw [show pil (opM wh v nm) fs 0 = fs from rfl, set_same h2] at z
  exact z

/-! the key of a text -/
abbrev kRe (tb : Nat → Nat) (b : Nat) : Prop := tb b = 114 ∧ tb (b + 1) = 101 ∧ tb (b + 2) = 97 ∧ tb (b + 3) = 99 ∧ tb (b + 4) = 104
abbrev kFe (tb : Nat → Nat) (b : Nat) : Prop := tb b = 102 ∧ tb (b + 1) = 101 ∧ tb (b + 2) = 101
abbrev kFi (tb : Nat → Nat) (b : Nat) : Prop := tb b = 102 ∧ tb (b + 1) = 105 ∧ tb (b + 2) = 110 ∧ tb (b + 3) = 101
theorem bI_ne0 {p : Prop} [Decidable p] (h : ¬ bI p = 0) : p := Decidable.of_not_not (fun q => h (bI_f q))
theorem bI_is0 {p : Prop} [Decidable p] (h : bI p = 0) : ¬ p := bI_0.mp h
/-- the key of the word at b; 3: none -/
def kyv (tb : Nat → Nat) (tl b : Nat) : Nat := if srt tb tl b = 1 then (if enT tb tl b = b + 5 ∧ kRe tb b then 0 else if enT tb tl b = b + 3 ∧ kFe tb b then 1 else if enT tb tl b = b + 4 ∧ kFi tb b then 2 else 3) else 3
set_option maxHeartbeats 4000000 in
set_option maxRecDepth 100000 in
theorem c_M_kRe {g : Gl} {d ks : Nat} {h : AH} {z s tf : Nat → Int32} {tb : Nat → Nat} {tl b e : Nat} (hT : TpM g h z s tf tl) (hB : TpOk tf tb) (h16 : z 16 = nI b) (hE : z 18 = nI 1 → z 17 = nI e ∧ b < e ∧ e ≤ tl) : Ex g mX7_isLong d 0 ks 0 [some (.ref (g.1 + 75)), some (.int (nI 114)), some (.int (nI 101)), some (.int (nI 97)), some (.int (nI 99)), some (.int (nI 104)), some (.int (nI 0)), none] [] h (qi (fun h' r => h' = h ∧ r = bI (z 18 = nI 1 ∧ e = b + 5 ∧ tb b = 114 ∧ tb (b + 1) = 101 ∧ tb (b + 2) = 97 ∧ tb (b + 3) = 99 ∧ tb (b + 4) = 104))) := by
  have htl := hT.2.2.2
  refine ex_iload (pc := 0) dX7_isLong_0 rfl ?_
  refine bx_if_ne_f (pc := 2) (tgt := 9) dX7_isLong_2 (by decide) (rfl) ?_
  refine ex_iconst (pc := 5) (v := (nI 5)) dX7_isLong_5 (by decide) ?_
  refine ex_goto (pc := 6) (tgt := 11) dX7_isLong_6 (by decide) ?_
  refine sx_istore (pc := 11) dX7_isLong_11 rfl (by decide) ?_
  show Ex _ _ _ _ _ _ [_, _, _, _, _, _, _, _] _ _ _
  refine ex_aload_n (pc := 13) dX7_isLong_13 rfl ?_
  refine ex_get (pc := 14) dX7_isLong_14 fl_X7_283 hT.1.1 rfl ?_
  refine ex_iconst (pc := 17) (v := (nI 1)) dX7_isLong_17 (by decide) ?_
  refine ex_icmp_ne (pc := 18) (tgt := 135) dX7_isLong_18 (by decide) (fun c_18 => ?_) (fun c_18 => ?_)
  · skip
    refine ex_iconst (pc := 135) (v := 0) dX7_isLong_135 (by decide) ?_
    refine ex_zret dX7_isLong_136 rfl (by first | exact Or.inl rfl | exact Or.inr rfl | exact bI_01 _) ?_
    exact qi_mk ⟨rfl, (bI_f (fun q => c_18 q.1)).symm⟩
  · skip
    obtain ⟨h17, hbe, hel⟩ := hE c_18
    refine ex_aload_n (pc := 21) dX7_isLong_21 rfl ?_
    refine ex_get (pc := 22) dX7_isLong_22 fl_X7_280 hT.1.1 rfl ?_
    refine ex_aload_n (pc := 25) dX7_isLong_25 rfl ?_
    refine ex_get (pc := 26) dX7_isLong_26 fl_X7_286 hT.1.1 rfl ?_
    rw [h17, h16]
    refine ex_isub (pc := 29) dX7_isLong_29 ?_
    rw [nI_sub (by omega)]
    refine ex_iload (pc := 30) dX7_isLong_30 rfl ?_
    refine ex_icmp_ne (pc := 32) (tgt := 135) dX7_isLong_32 (by decide) (fun c_32 => ?_) (fun c_32 => ?_)
    · skip
      have h5 : ¬ e = b + 5 := fun q => c_32 (by rw [q]; congr 1; omega)
      refine ex_iconst (pc := 135) (v := 0) dX7_isLong_135 (by decide) ?_
      refine ex_zret dX7_isLong_136 rfl (by first | exact Or.inl rfl | exact Or.inr rfl | exact bI_01 _) ?_
      exact qi_mk ⟨rfl, (bI_f (fun q => h5 q.2.1)).symm⟩
    · skip
      have h5 : e = b + 5 := by
        have := (nI_eq (by omega) (by omega)).mp c_32
        omega
      refine ex_aload_n (pc := 35) dX7_isLong_35 rfl ?_
      refine ex_get (pc := 36) dX7_isLong_36 fl_X7_50 hT.1.1 rfl ?_
      refine ex_aload_n (pc := 39) dX7_isLong_39 rfl ?_
      refine ex_get (pc := 40) dX7_isLong_40 fl_X7_286 hT.1.1 rfl ?_
      rw [h16]
      refine ex_ildn (k := b) (pc := 43) dX7_isLong_43 hT.2.1 rfl (by omega) (by decide) ?_
      rw [(hB (b)).1]
      refine ex_iload_n (pc := 44) dX7_isLong_44 rfl ?_
      refine ex_icmp_ne (pc := 45) (tgt := 135) dX7_isLong_45 (by decide) (fun c_45 => ?_) (fun c_45 => ?_)
      · skip
        have y0 : ¬ tb b = 114 := fun q => c_45 (by rw [q])
        refine ex_iconst (pc := 135) (v := 0) dX7_isLong_135 (by decide) ?_
        refine ex_zret dX7_isLong_136 rfl (by first | exact Or.inl rfl | exact Or.inr rfl | exact bI_01 _) ?_
        exact qi_mk ⟨rfl, (bI_f (fun q => y0 (q.2.2.1))).symm⟩
      · skip
        have y0 : tb b = 114 := (nI_eq (by have := (hB (b)).2; omega) (by omega)).mp c_45
        refine ex_aload_n (pc := 48) dX7_isLong_48 rfl ?_
        refine ex_get (pc := 49) dX7_isLong_49 fl_X7_50 hT.1.1 rfl ?_
        refine ex_aload_n (pc := 52) dX7_isLong_52 rfl ?_
        refine ex_get (pc := 53) dX7_isLong_53 fl_X7_286 hT.1.1 rfl ?_
        rw [h16]
        refine ex_iconst (pc := 56) (v := (nI 1)) dX7_isLong_56 (by decide) ?_
        refine ex_iadd (pc := 57) dX7_isLong_57 ?_
        rw [nI_add]
        refine ex_ildn (k := b + 1) (pc := 58) dX7_isLong_58 hT.2.1 rfl (by omega) (by decide) ?_
        rw [(hB (b + 1)).1]
        refine ex_iload_n (pc := 59) dX7_isLong_59 rfl ?_
        refine ex_icmp_ne (pc := 60) (tgt := 135) dX7_isLong_60 (by decide) (fun c_60 => ?_) (fun c_60 => ?_)
        · skip
          have y1 : ¬ tb (b + 1) = 101 := fun q => c_60 (by rw [q])
          refine ex_iconst (pc := 135) (v := 0) dX7_isLong_135 (by decide) ?_
          refine ex_zret dX7_isLong_136 rfl (by first | exact Or.inl rfl | exact Or.inr rfl | exact bI_01 _) ?_
          exact qi_mk ⟨rfl, (bI_f (fun q => y1 (q.2.2.2.1))).symm⟩
        · skip
          have y1 : tb (b + 1) = 101 := (nI_eq (by have := (hB (b + 1)).2; omega) (by omega)).mp c_60
          refine ex_aload_n (pc := 63) dX7_isLong_63 rfl ?_
          refine ex_get (pc := 64) dX7_isLong_64 fl_X7_50 hT.1.1 rfl ?_
          refine ex_aload_n (pc := 67) dX7_isLong_67 rfl ?_
          refine ex_get (pc := 68) dX7_isLong_68 fl_X7_286 hT.1.1 rfl ?_
          rw [h16]
          refine ex_iconst (pc := 71) (v := (nI 2)) dX7_isLong_71 (by decide) ?_
          refine ex_iadd (pc := 72) dX7_isLong_72 ?_
          rw [nI_add]
          refine ex_ildn (k := b + 2) (pc := 73) dX7_isLong_73 hT.2.1 rfl (by omega) (by decide) ?_
          rw [(hB (b + 2)).1]
          refine ex_iload_n (pc := 74) dX7_isLong_74 rfl ?_
          refine ex_icmp_ne (pc := 75) (tgt := 135) dX7_isLong_75 (by decide) (fun c_75 => ?_) (fun c_75 => ?_)
          · skip
            have y2 : ¬ tb (b + 2) = 97 := fun q => c_75 (by rw [q])
            refine ex_iconst (pc := 135) (v := 0) dX7_isLong_135 (by decide) ?_
            refine ex_zret dX7_isLong_136 rfl (by first | exact Or.inl rfl | exact Or.inr rfl | exact bI_01 _) ?_
            exact qi_mk ⟨rfl, (bI_f (fun q => y2 (q.2.2.2.2.1))).symm⟩
          · skip
            have y2 : tb (b + 2) = 97 := (nI_eq (by have := (hB (b + 2)).2; omega) (by omega)).mp c_75
            refine ex_aload_n (pc := 78) dX7_isLong_78 rfl ?_
            refine ex_get (pc := 79) dX7_isLong_79 fl_X7_50 hT.1.1 rfl ?_
            refine ex_aload_n (pc := 82) dX7_isLong_82 rfl ?_
            refine ex_get (pc := 83) dX7_isLong_83 fl_X7_286 hT.1.1 rfl ?_
            rw [h16]
            refine ex_iconst (pc := 86) (v := (nI 3)) dX7_isLong_86 (by decide) ?_
            refine ex_iadd (pc := 87) dX7_isLong_87 ?_
            rw [nI_add]
            refine ex_ildn (k := b + 3) (pc := 88) dX7_isLong_88 hT.2.1 rfl (by omega) (by decide) ?_
            rw [(hB (b + 3)).1]
            refine ex_iload (pc := 89) dX7_isLong_89 rfl ?_
            refine ex_icmp_ne (pc := 91) (tgt := 135) dX7_isLong_91 (by decide) (fun c_91 => ?_) (fun c_91 => ?_)
            · skip
              have y3 : ¬ tb (b + 3) = 99 := fun q => c_91 (by rw [q])
              refine ex_iconst (pc := 135) (v := 0) dX7_isLong_135 (by decide) ?_
              refine ex_zret dX7_isLong_136 rfl (by first | exact Or.inl rfl | exact Or.inr rfl | exact bI_01 _) ?_
              exact qi_mk ⟨rfl, (bI_f (fun q => y3 (q.2.2.2.2.2.1))).symm⟩
            · skip
              have y3 : tb (b + 3) = 99 := (nI_eq (by have := (hB (b + 3)).2; omega) (by omega)).mp c_91
              refine ex_aload_n (pc := 94) dX7_isLong_94 rfl ?_
              refine ex_get (pc := 95) dX7_isLong_95 fl_X7_50 hT.1.1 rfl ?_
              refine ex_aload_n (pc := 98) dX7_isLong_98 rfl ?_
              refine ex_get (pc := 99) dX7_isLong_99 fl_X7_286 hT.1.1 rfl ?_
              rw [h16]
              refine ex_iconst (pc := 102) (v := (nI 4)) dX7_isLong_102 (by decide) ?_
              refine ex_iadd (pc := 103) dX7_isLong_103 ?_
              rw [nI_add]
              refine ex_ildn (k := b + 4) (pc := 104) dX7_isLong_104 hT.2.1 rfl (by omega) (by decide) ?_
              rw [(hB (b + 4)).1]
              refine ex_iload (pc := 105) dX7_isLong_105 rfl ?_
              refine ex_icmp_ne (pc := 107) (tgt := 135) dX7_isLong_107 (by decide) (fun c_107 => ?_) (fun c_107 => ?_)
              · skip
                have y4 : ¬ tb (b + 4) = 104 := fun q => c_107 (by rw [q])
                refine ex_iconst (pc := 135) (v := 0) dX7_isLong_135 (by decide) ?_
                refine ex_zret dX7_isLong_136 rfl (by first | exact Or.inl rfl | exact Or.inr rfl | exact bI_01 _) ?_
                exact qi_mk ⟨rfl, (bI_f (fun q => y4 (q.2.2.2.2.2.2))).symm⟩
              · skip
                have y4 : tb (b + 4) = 104 := (nI_eq (by have := (hB (b + 4)).2; omega) (by omega)).mp c_107
                refine ex_iload (pc := 110) dX7_isLong_110 rfl ?_
                refine bx_if_eq_t (pc := 112) (tgt := 131) dX7_isLong_112 (by decide) (rfl) ?_
                refine ex_iconst (pc := 131) (v := 1) dX7_isLong_131 (by decide) ?_
                refine ex_goto (pc := 132) (tgt := 136) dX7_isLong_132 (by decide) ?_
                refine ex_zret dX7_isLong_136 rfl (by first | exact Or.inl rfl | exact Or.inr rfl | exact bI_01 _) ?_
                exact qi_mk ⟨rfl, (bI_t ⟨c_18, h5, y0, y1, y2, y3, y4⟩).symm⟩
set_option maxHeartbeats 4000000 in
set_option maxRecDepth 100000 in
theorem c_M_kFe {g : Gl} {d ks : Nat} {h : AH} {z s tf : Nat → Int32} {tb : Nat → Nat} {tl b e : Nat} (hT : TpM g h z s tf tl) (hB : TpOk tf tb) (h16 : z 16 = nI b) (hE : z 18 = nI 1 → z 17 = nI e ∧ b < e ∧ e ≤ tl) : Ex g mX7_isWordAt d 0 ks 0 [some (.ref (g.1 + 75)), some (.int (nI 102)), some (.int (nI 101)), some (.int (nI 101)), some (.int (nI 0)), none] [] h (qi (fun h' r => h' = h ∧ r = bI (z 18 = nI 1 ∧ e = b + 3 ∧ tb b = 102 ∧ tb (b + 1) = 101 ∧ tb (b + 2) = 101))) := by
  have htl := hT.2.2.2
  refine ex_iload (pc := 0) dX7_isWordAt_0 rfl ?_
  refine bx_if_ne_f (pc := 2) (tgt := 9) dX7_isWordAt_2 (by decide) (rfl) ?_
  refine ex_iconst (pc := 5) (v := (nI 3)) dX7_isWordAt_5 (by decide) ?_
  refine ex_goto (pc := 6) (tgt := 10) dX7_isWordAt_6 (by decide) ?_
  refine sx_istore (pc := 10) dX7_isWordAt_10 rfl (by decide) ?_
  show Ex _ _ _ _ _ _ [_, _, _, _, _, _] _ _ _
  refine ex_aload_n (pc := 12) dX7_isWordAt_12 rfl ?_
  refine ex_get (pc := 13) dX7_isWordAt_13 fl_X7_283 hT.1.1 rfl ?_
  refine ex_iconst (pc := 16) (v := (nI 1)) dX7_isWordAt_16 (by decide) ?_
  refine ex_icmp_ne (pc := 17) (tgt := 102) dX7_isWordAt_17 (by decide) (fun c_17 => ?_) (fun c_17 => ?_)
  · skip
    refine ex_iconst (pc := 102) (v := 0) dX7_isWordAt_102 (by decide) ?_
    refine ex_zret dX7_isWordAt_103 rfl (by first | exact Or.inl rfl | exact Or.inr rfl | exact bI_01 _) ?_
    exact qi_mk ⟨rfl, (bI_f (fun q => c_17 q.1)).symm⟩
  · skip
    obtain ⟨h17, hbe, hel⟩ := hE c_17
    refine ex_aload_n (pc := 20) dX7_isWordAt_20 rfl ?_
    refine ex_get (pc := 21) dX7_isWordAt_21 fl_X7_280 hT.1.1 rfl ?_
    refine ex_aload_n (pc := 24) dX7_isWordAt_24 rfl ?_
    refine ex_get (pc := 25) dX7_isWordAt_25 fl_X7_286 hT.1.1 rfl ?_
    rw [h17, h16]
    refine ex_isub (pc := 28) dX7_isWordAt_28 ?_
    rw [nI_sub (by omega)]
    refine ex_iload (pc := 29) dX7_isWordAt_29 rfl ?_
    refine ex_icmp_ne (pc := 31) (tgt := 102) dX7_isWordAt_31 (by decide) (fun c_31 => ?_) (fun c_31 => ?_)
    · skip
      have h5 : ¬ e = b + 3 := fun q => c_31 (by rw [q]; congr 1; omega)
      refine ex_iconst (pc := 102) (v := 0) dX7_isWordAt_102 (by decide) ?_
      refine ex_zret dX7_isWordAt_103 rfl (by first | exact Or.inl rfl | exact Or.inr rfl | exact bI_01 _) ?_
      exact qi_mk ⟨rfl, (bI_f (fun q => h5 q.2.1)).symm⟩
    · skip
      have h5 : e = b + 3 := by
        have := (nI_eq (by omega) (by omega)).mp c_31
        omega
      refine ex_aload_n (pc := 34) dX7_isWordAt_34 rfl ?_
      refine ex_get (pc := 35) dX7_isWordAt_35 fl_X7_50 hT.1.1 rfl ?_
      refine ex_aload_n (pc := 38) dX7_isWordAt_38 rfl ?_
      refine ex_get (pc := 39) dX7_isWordAt_39 fl_X7_286 hT.1.1 rfl ?_
      rw [h16]
      refine ex_ildn (k := b) (pc := 42) dX7_isWordAt_42 hT.2.1 rfl (by omega) (by decide) ?_
      rw [(hB (b)).1]
      refine ex_iload_n (pc := 43) dX7_isWordAt_43 rfl ?_
      refine ex_icmp_ne (pc := 44) (tgt := 102) dX7_isWordAt_44 (by decide) (fun c_44 => ?_) (fun c_44 => ?_)
      · skip
        have y0 : ¬ tb b = 102 := fun q => c_44 (by rw [q])
        refine ex_iconst (pc := 102) (v := 0) dX7_isWordAt_102 (by decide) ?_
        refine ex_zret dX7_isWordAt_103 rfl (by first | exact Or.inl rfl | exact Or.inr rfl | exact bI_01 _) ?_
        exact qi_mk ⟨rfl, (bI_f (fun q => y0 (q.2.2.1))).symm⟩
      · skip
        have y0 : tb b = 102 := (nI_eq (by have := (hB (b)).2; omega) (by omega)).mp c_44
        refine ex_aload_n (pc := 47) dX7_isWordAt_47 rfl ?_
        refine ex_get (pc := 48) dX7_isWordAt_48 fl_X7_50 hT.1.1 rfl ?_
        refine ex_aload_n (pc := 51) dX7_isWordAt_51 rfl ?_
        refine ex_get (pc := 52) dX7_isWordAt_52 fl_X7_286 hT.1.1 rfl ?_
        rw [h16]
        refine ex_iconst (pc := 55) (v := (nI 1)) dX7_isWordAt_55 (by decide) ?_
        refine ex_iadd (pc := 56) dX7_isWordAt_56 ?_
        rw [nI_add]
        refine ex_ildn (k := b + 1) (pc := 57) dX7_isWordAt_57 hT.2.1 rfl (by omega) (by decide) ?_
        rw [(hB (b + 1)).1]
        refine ex_iload_n (pc := 58) dX7_isWordAt_58 rfl ?_
        refine ex_icmp_ne (pc := 59) (tgt := 102) dX7_isWordAt_59 (by decide) (fun c_59 => ?_) (fun c_59 => ?_)
        · skip
          have y1 : ¬ tb (b + 1) = 101 := fun q => c_59 (by rw [q])
          refine ex_iconst (pc := 102) (v := 0) dX7_isWordAt_102 (by decide) ?_
          refine ex_zret dX7_isWordAt_103 rfl (by first | exact Or.inl rfl | exact Or.inr rfl | exact bI_01 _) ?_
          exact qi_mk ⟨rfl, (bI_f (fun q => y1 (q.2.2.2.1))).symm⟩
        · skip
          have y1 : tb (b + 1) = 101 := (nI_eq (by have := (hB (b + 1)).2; omega) (by omega)).mp c_59
          refine ex_aload_n (pc := 62) dX7_isWordAt_62 rfl ?_
          refine ex_get (pc := 63) dX7_isWordAt_63 fl_X7_50 hT.1.1 rfl ?_
          refine ex_aload_n (pc := 66) dX7_isWordAt_66 rfl ?_
          refine ex_get (pc := 67) dX7_isWordAt_67 fl_X7_286 hT.1.1 rfl ?_
          rw [h16]
          refine ex_iconst (pc := 70) (v := (nI 2)) dX7_isWordAt_70 (by decide) ?_
          refine ex_iadd (pc := 71) dX7_isWordAt_71 ?_
          rw [nI_add]
          refine ex_ildn (k := b + 2) (pc := 72) dX7_isWordAt_72 hT.2.1 rfl (by omega) (by decide) ?_
          rw [(hB (b + 2)).1]
          refine ex_iload_n (pc := 73) dX7_isWordAt_73 rfl ?_
          refine ex_icmp_ne (pc := 74) (tgt := 102) dX7_isWordAt_74 (by decide) (fun c_74 => ?_) (fun c_74 => ?_)
          · skip
            have y2 : ¬ tb (b + 2) = 101 := fun q => c_74 (by rw [q])
            refine ex_iconst (pc := 102) (v := 0) dX7_isWordAt_102 (by decide) ?_
            refine ex_zret dX7_isWordAt_103 rfl (by first | exact Or.inl rfl | exact Or.inr rfl | exact bI_01 _) ?_
            exact qi_mk ⟨rfl, (bI_f (fun q => y2 (q.2.2.2.2))).symm⟩
          · skip
            have y2 : tb (b + 2) = 101 := (nI_eq (by have := (hB (b + 2)).2; omega) (by omega)).mp c_74
            refine ex_iload (pc := 77) dX7_isWordAt_77 rfl ?_
            refine bx_if_eq_t (pc := 79) (tgt := 98) dX7_isWordAt_79 (by decide) (rfl) ?_
            refine ex_iconst (pc := 98) (v := 1) dX7_isWordAt_98 (by decide) ?_
            refine ex_goto (pc := 99) (tgt := 103) dX7_isWordAt_99 (by decide) ?_
            refine ex_zret dX7_isWordAt_103 rfl (by first | exact Or.inl rfl | exact Or.inr rfl | exact bI_01 _) ?_
            exact qi_mk ⟨rfl, (bI_t ⟨c_17, h5, y0, y1, y2⟩).symm⟩
set_option maxHeartbeats 4000000 in
set_option maxRecDepth 100000 in
theorem c_M_kFi {g : Gl} {d ks : Nat} {h : AH} {z s tf : Nat → Int32} {tb : Nat → Nat} {tl b e : Nat} (hT : TpM g h z s tf tl) (hB : TpOk tf tb) (h16 : z 16 = nI b) (hE : z 18 = nI 1 → z 17 = nI e ∧ b < e ∧ e ≤ tl) : Ex g mX7_isWordAt d 0 ks 0 [some (.ref (g.1 + 75)), some (.int (nI 102)), some (.int (nI 105)), some (.int (nI 110)), some (.int (nI 101)), none] [] h (qi (fun h' r => h' = h ∧ r = bI (z 18 = nI 1 ∧ e = b + 4 ∧ tb b = 102 ∧ tb (b + 1) = 105 ∧ tb (b + 2) = 110 ∧ tb (b + 3) = 101))) := by
  have htl := hT.2.2.2
  refine ex_iload (pc := 0) dX7_isWordAt_0 rfl ?_
  refine bx_if_ne_t (pc := 2) (tgt := 9) dX7_isWordAt_2 (by decide) (by decide) ?_
  refine ex_iconst (pc := 9) (v := (nI 4)) dX7_isWordAt_9 (by decide) ?_
  refine sx_istore (pc := 10) dX7_isWordAt_10 rfl (by decide) ?_
  show Ex _ _ _ _ _ _ [_, _, _, _, _, _] _ _ _
  refine ex_aload_n (pc := 12) dX7_isWordAt_12 rfl ?_
  refine ex_get (pc := 13) dX7_isWordAt_13 fl_X7_283 hT.1.1 rfl ?_
  refine ex_iconst (pc := 16) (v := (nI 1)) dX7_isWordAt_16 (by decide) ?_
  refine ex_icmp_ne (pc := 17) (tgt := 102) dX7_isWordAt_17 (by decide) (fun c_17 => ?_) (fun c_17 => ?_)
  · skip
    refine ex_iconst (pc := 102) (v := 0) dX7_isWordAt_102 (by decide) ?_
    refine ex_zret dX7_isWordAt_103 rfl (by first | exact Or.inl rfl | exact Or.inr rfl | exact bI_01 _) ?_
    exact qi_mk ⟨rfl, (bI_f (fun q => c_17 q.1)).symm⟩
  · skip
    obtain ⟨h17, hbe, hel⟩ := hE c_17
    refine ex_aload_n (pc := 20) dX7_isWordAt_20 rfl ?_
    refine ex_get (pc := 21) dX7_isWordAt_21 fl_X7_280 hT.1.1 rfl ?_
    refine ex_aload_n (pc := 24) dX7_isWordAt_24 rfl ?_
    refine ex_get (pc := 25) dX7_isWordAt_25 fl_X7_286 hT.1.1 rfl ?_
    rw [h17, h16]
    refine ex_isub (pc := 28) dX7_isWordAt_28 ?_
    rw [nI_sub (by omega)]
    refine ex_iload (pc := 29) dX7_isWordAt_29 rfl ?_
    refine ex_icmp_ne (pc := 31) (tgt := 102) dX7_isWordAt_31 (by decide) (fun c_31 => ?_) (fun c_31 => ?_)
    · skip
      have h5 : ¬ e = b + 4 := fun q => c_31 (by rw [q]; congr 1; omega)
      refine ex_iconst (pc := 102) (v := 0) dX7_isWordAt_102 (by decide) ?_
      refine ex_zret dX7_isWordAt_103 rfl (by first | exact Or.inl rfl | exact Or.inr rfl | exact bI_01 _) ?_
      exact qi_mk ⟨rfl, (bI_f (fun q => h5 q.2.1)).symm⟩
    · skip
      have h5 : e = b + 4 := by
        have := (nI_eq (by omega) (by omega)).mp c_31
        omega
      refine ex_aload_n (pc := 34) dX7_isWordAt_34 rfl ?_
      refine ex_get (pc := 35) dX7_isWordAt_35 fl_X7_50 hT.1.1 rfl ?_
      refine ex_aload_n (pc := 38) dX7_isWordAt_38 rfl ?_
      refine ex_get (pc := 39) dX7_isWordAt_39 fl_X7_286 hT.1.1 rfl ?_
      rw [h16]
      refine ex_ildn (k := b) (pc := 42) dX7_isWordAt_42 hT.2.1 rfl (by omega) (by decide) ?_
      rw [(hB (b)).1]
      refine ex_iload_n (pc := 43) dX7_isWordAt_43 rfl ?_
      refine ex_icmp_ne (pc := 44) (tgt := 102) dX7_isWordAt_44 (by decide) (fun c_44 => ?_) (fun c_44 => ?_)
      · skip
        have y0 : ¬ tb b = 102 := fun q => c_44 (by rw [q])
        refine ex_iconst (pc := 102) (v := 0) dX7_isWordAt_102 (by decide) ?_
        refine ex_zret dX7_isWordAt_103 rfl (by first | exact Or.inl rfl | exact Or.inr rfl | exact bI_01 _) ?_
        exact qi_mk ⟨rfl, (bI_f (fun q => y0 (q.2.2.1))).symm⟩
      · skip
        have y0 : tb b = 102 := (nI_eq (by have := (hB (b)).2; omega) (by omega)).mp c_44
        refine ex_aload_n (pc := 47) dX7_isWordAt_47 rfl ?_
        refine ex_get (pc := 48) dX7_isWordAt_48 fl_X7_50 hT.1.1 rfl ?_
        refine ex_aload_n (pc := 51) dX7_isWordAt_51 rfl ?_
        refine ex_get (pc := 52) dX7_isWordAt_52 fl_X7_286 hT.1.1 rfl ?_
        rw [h16]
        refine ex_iconst (pc := 55) (v := (nI 1)) dX7_isWordAt_55 (by decide) ?_
        refine ex_iadd (pc := 56) dX7_isWordAt_56 ?_
        rw [nI_add]
        refine ex_ildn (k := b + 1) (pc := 57) dX7_isWordAt_57 hT.2.1 rfl (by omega) (by decide) ?_
        rw [(hB (b + 1)).1]
        refine ex_iload_n (pc := 58) dX7_isWordAt_58 rfl ?_
        refine ex_icmp_ne (pc := 59) (tgt := 102) dX7_isWordAt_59 (by decide) (fun c_59 => ?_) (fun c_59 => ?_)
        · skip
          have y1 : ¬ tb (b + 1) = 105 := fun q => c_59 (by rw [q])
          refine ex_iconst (pc := 102) (v := 0) dX7_isWordAt_102 (by decide) ?_
          refine ex_zret dX7_isWordAt_103 rfl (by first | exact Or.inl rfl | exact Or.inr rfl | exact bI_01 _) ?_
          exact qi_mk ⟨rfl, (bI_f (fun q => y1 (q.2.2.2.1))).symm⟩
        · skip
          have y1 : tb (b + 1) = 105 := (nI_eq (by have := (hB (b + 1)).2; omega) (by omega)).mp c_59
          refine ex_aload_n (pc := 62) dX7_isWordAt_62 rfl ?_
          refine ex_get (pc := 63) dX7_isWordAt_63 fl_X7_50 hT.1.1 rfl ?_
          refine ex_aload_n (pc := 66) dX7_isWordAt_66 rfl ?_
          refine ex_get (pc := 67) dX7_isWordAt_67 fl_X7_286 hT.1.1 rfl ?_
          rw [h16]
          refine ex_iconst (pc := 70) (v := (nI 2)) dX7_isWordAt_70 (by decide) ?_
          refine ex_iadd (pc := 71) dX7_isWordAt_71 ?_
          rw [nI_add]
          refine ex_ildn (k := b + 2) (pc := 72) dX7_isWordAt_72 hT.2.1 rfl (by omega) (by decide) ?_
          rw [(hB (b + 2)).1]
          refine ex_iload_n (pc := 73) dX7_isWordAt_73 rfl ?_
          refine ex_icmp_ne (pc := 74) (tgt := 102) dX7_isWordAt_74 (by decide) (fun c_74 => ?_) (fun c_74 => ?_)
          · skip
            have y2 : ¬ tb (b + 2) = 110 := fun q => c_74 (by rw [q])
            refine ex_iconst (pc := 102) (v := 0) dX7_isWordAt_102 (by decide) ?_
            refine ex_zret dX7_isWordAt_103 rfl (by first | exact Or.inl rfl | exact Or.inr rfl | exact bI_01 _) ?_
            exact qi_mk ⟨rfl, (bI_f (fun q => y2 (q.2.2.2.2.1))).symm⟩
          · skip
            have y2 : tb (b + 2) = 110 := (nI_eq (by have := (hB (b + 2)).2; omega) (by omega)).mp c_74
            refine ex_iload (pc := 77) dX7_isWordAt_77 rfl ?_
            refine bx_if_eq_f (pc := 79) (tgt := 98) dX7_isWordAt_79 (by decide) (by decide) ?_
            refine ex_aload_n (pc := 82) dX7_isWordAt_82 rfl ?_
            refine ex_get (pc := 83) dX7_isWordAt_83 fl_X7_50 hT.1.1 rfl ?_
            refine ex_aload_n (pc := 86) dX7_isWordAt_86 rfl ?_
            refine ex_get (pc := 87) dX7_isWordAt_87 fl_X7_286 hT.1.1 rfl ?_
            rw [h16]
            refine ex_iconst (pc := 90) (v := (nI 3)) dX7_isWordAt_90 (by decide) ?_
            refine ex_iadd (pc := 91) dX7_isWordAt_91 ?_
            rw [nI_add]
            refine ex_ildn (k := b + 3) (pc := 92) dX7_isWordAt_92 hT.2.1 rfl (by omega) (by decide) ?_
            rw [(hB (b + 3)).1]
            refine ex_iload (pc := 93) dX7_isWordAt_93 rfl ?_
            refine ex_icmp_ne (pc := 95) (tgt := 102) dX7_isWordAt_95 (by decide) (fun c_95 => ?_) (fun c_95 => ?_)
            · skip
              have y3 : ¬ tb (b + 3) = 101 := fun q => c_95 (by rw [q])
              refine ex_iconst (pc := 102) (v := 0) dX7_isWordAt_102 (by decide) ?_
              refine ex_zret dX7_isWordAt_103 rfl (by first | exact Or.inl rfl | exact Or.inr rfl | exact bI_01 _) ?_
              exact qi_mk ⟨rfl, (bI_f (fun q => y3 (q.2.2.2.2.2))).symm⟩
            · skip
              have y3 : tb (b + 3) = 101 := (nI_eq (by have := (hB (b + 3)).2; omega) (by omega)).mp c_95
              refine ex_iconst (pc := 98) (v := 1) dX7_isWordAt_98 (by decide) ?_
              refine ex_goto (pc := 99) (tgt := 103) dX7_isWordAt_99 (by decide) ?_
              refine ex_zret dX7_isWordAt_103 rfl (by first | exact Or.inl rfl | exact Or.inr rfl | exact bI_01 _) ?_
              exact qi_mk ⟨rfl, (bI_t ⟨c_17, h5, y0, y1, y2, y3⟩).symm⟩
theorem ky_z {tb : Nat → Nat} {tl b : Nat} {z : Nat → Int32} (h : tkZ tb tl b z) (hb : b ≤ tl) (hg : ¬ glT tb tl b) : (z 18 = nI 1 ↔ srt tb tl b = 1) ∧ (z 18 = nI 1 → z 17 = nI (enT tb tl b) ∧ b < enT tb tl b ∧ enT tb tl b ≤ tl) := by
  obtain ⟨a1, a2, a3⟩ := h
  by_cases e : b = tl
  · rw [a2 e]
    refine ⟨⟨fun q => absurd q (by decide), fun q => ?_⟩, fun q => absurd q (by decide)⟩
    rw [srt_hi (by omega)] at q
    exact absurd q (by decide)
  · have hb' : b < tl := by omega
    obtain ⟨z17, s0, s1, s2⟩ := a3 hb'
    have he := en_rng (tb := tb) hb'
    refine ⟨⟨fun q => ?_, fun q => (s1 q).1.2 hg⟩, fun _ => ⟨z17, by omega, he.2⟩⟩
    have h3 := srt_3 tb tl b
    rcases (show srt tb tl b = 0 ∨ srt tb tl b = 1 ∨ srt tb tl b = 2 by omega) with k | k | k
    · rw [(s0 k).1] at q; exact absurd q (by decide)
    · exact k
    · by_cases h4 : enT tb tl b - b ≤ 4
      · rw [((s2 k).2 ⟨hg, h4⟩).1] at q; exact absurd q (by decide)
      · rw [(s2 k).1 (Or.inr h4)] at q; exact absurd q (by decide)
def kyI (k : Nat) : Int32 := if k < 3 then nI k else -1
set_option maxHeartbeats 4000000 in
set_option maxRecDepth 100000 in
theorem c_M_key {g : Gl} {d ks : Nat} {h : AH} {z s tf : Nat → Int32} {tb : Nat → Nat} {tl b : Nat} (hT : TpM g h z s tf tl) (hB : TpOk tf tb) (hZ : tkZ tb tl b z) (hb : b ≤ tl) (hg : ¬ glT tb tl b) (hd : 1 ≤ d) : Ex g mX7_key d 0 ks 0 [some (.ref (g.1 + 75))] [] h (qi (fun h' r => h' = h ∧ r = kyI (kyv tb tl b))) := by
  obtain ⟨hz1, hz2⟩ := ky_z hZ hb hg
  refine ex_aload_n (pc := 0) dX7_key_0 rfl ?_
  refine ex_bipush (pc := 1) (v := (nI 114)) dX7_key_1 (by decide) ?_
  refine ex_bipush (pc := 3) (v := (nI 101)) dX7_key_3 (by decide) ?_
  refine ex_bipush (pc := 5) (v := (nI 97)) dX7_key_5 (by decide) ?_
  refine ex_bipush (pc := 7) (v := (nI 99)) dX7_key_7 (by decide) ?_
  refine ex_bipush (pc := 9) (v := (nI 104)) dX7_key_9 (by decide) ?_
  refine ex_iconst (pc := 11) (v := (nI 0)) dX7_key_11 (by decide) ?_
  refine cx_VL6i (pc := 12) dX7_key_12 lk_X7_301 hT.1.1 rfl (Nat.le_of_ble_eq_true rfl) (Nat.le_of_ble_eq_true rfl) (by omega) (c_M_kRe hT hB hZ.1 hz2) (fun h_12 x_12 q_12 => ?_)
  obtain ⟨e_12, f_12⟩ := q_12
  rw [e_12, f_12]
  refine ex_if_eq (pc := 15) (tgt := 20) dX7_key_15 (by decide) (fun c_15 => ?_) (fun c_15 => ?_)
  · skip
    refine ex_aload_n (pc := 20) dX7_key_20 rfl ?_
    refine ex_bipush (pc := 21) (v := (nI 102)) dX7_key_21 (by decide) ?_
    refine ex_bipush (pc := 23) (v := (nI 101)) dX7_key_23 (by decide) ?_
    refine ex_bipush (pc := 25) (v := (nI 101)) dX7_key_25 (by decide) ?_
    refine ex_iconst (pc := 27) (v := (nI 0)) dX7_key_27 (by decide) ?_
    refine cx_VL4i (pc := 28) dX7_key_28 lk_X7_305 hT.1.1 rfl (Nat.le_of_ble_eq_true rfl) (Nat.le_of_ble_eq_true rfl) (by omega) (c_M_kFe hT hB hZ.1 hz2) (fun h_28 x_28 q_28 => ?_)
    obtain ⟨e_28, f_28⟩ := q_28
    rw [e_28, f_28]
    refine ex_if_eq (pc := 31) (tgt := 36) dX7_key_31 (by decide) (fun c_31 => ?_) (fun c_31 => ?_)
    · skip
      refine ex_aload_n (pc := 36) dX7_key_36 rfl ?_
      refine ex_bipush (pc := 37) (v := (nI 102)) dX7_key_37 (by decide) ?_
      refine ex_bipush (pc := 39) (v := (nI 105)) dX7_key_39 (by decide) ?_
      refine ex_bipush (pc := 41) (v := (nI 110)) dX7_key_41 (by decide) ?_
      refine ex_bipush (pc := 43) (v := (nI 101)) dX7_key_43 (by decide) ?_
      refine cx_VL4i (pc := 45) dX7_key_45 lk_X7_305 hT.1.1 rfl (Nat.le_of_ble_eq_true rfl) (Nat.le_of_ble_eq_true rfl) (by omega) (c_M_kFi hT hB hZ.1 hz2) (fun h_45 x_45 q_45 => ?_)
      obtain ⟨e_45, f_45⟩ := q_45
      rw [e_45, f_45]
      refine ex_if_eq (pc := 48) (tgt := 55) dX7_key_48 (by decide) (fun c_48 => ?_) (fun c_48 => ?_)
      · skip
        refine ex_iconst (pc := 55) (v := (-1)) dX7_key_55 (by decide) ?_
        refine ex_ret dX7_key_56 rfl ?_
        refine qi_mk ⟨rfl, ?_⟩
        have q0 := bI_is0 c_15
        have q1 := bI_is0 c_31
        have q2 := bI_is0 c_48
        have e : kyv tb tl b = 3 := by
          unfold kyv
          by_cases hs : srt tb tl b = 1
          · have q := hz1.mpr hs
            rw [if_pos hs, if_neg (fun y => q0 ⟨q, y⟩), if_neg (fun y => q1 ⟨q, y⟩), if_neg (fun y => q2 ⟨q, y⟩)]
          · rw [if_neg hs]
        rw [e]
        rfl
      · skip
        refine ex_iconst (pc := 51) (v := (nI 2)) dX7_key_51 (by decide) ?_
        refine ex_goto (pc := 52) (tgt := 56) dX7_key_52 (by decide) ?_
        refine ex_ret dX7_key_56 rfl ?_
        refine qi_mk ⟨rfl, ?_⟩
        have q0 := bI_is0 c_15
        have q1 := bI_is0 c_31
        have q := bI_ne0 c_48
        have hs := hz1.mp q.1
        have e : kyv tb tl b = 2 := by unfold kyv; rw [if_pos hs, if_neg (fun y => q0 ⟨q.1, y⟩), if_neg (fun y => q1 ⟨q.1, y⟩), if_pos q.2]
        rw [e]
        rfl
    · skip
      refine ex_iconst (pc := 34) (v := 1) dX7_key_34 (by decide) ?_
      refine ex_ret dX7_key_35 rfl ?_
      refine qi_mk ⟨rfl, ?_⟩
      have q0 := bI_is0 c_15
      have q := bI_ne0 c_31
      have hs := hz1.mp q.1
      have e : kyv tb tl b = 1 := by unfold kyv; rw [if_pos hs, if_neg (fun y => q0 ⟨q.1, y⟩), if_pos q.2]
      rw [e]
      rfl
  · skip
    refine ex_iconst (pc := 18) (v := 0) dX7_key_18 (by decide) ?_
    refine ex_ret dX7_key_19 rfl ?_
    refine qi_mk ⟨rfl, ?_⟩
    have q := bI_ne0 c_15
    have e : kyv tb tl b = 0 := by unfold kyv; rw [if_pos (hz1.mp q.1), if_pos q.2]
    rw [e]
    rfl

/-! the law's cases -/
abbrev mL_law : Mt := (yL_law, cL_law, 4, (Option.some Jvm.ClassFile.FieldType.boolean))
def sv (g : Gl) (k : Nat) : Int32 := g.2.2.2.2.2.2 k
def sB (g : Gl) : Nat := g.2.2.2.2.1
def sN (g : Gl) : Nat := g.2.2.2.2.2.1
theorem ex_scr {g : Gl} {M : Mt} {d kc ks pc i k : Nat} {als : List (Option Value)} {st : List Value} {h : AH} {Q : AH → Option Value → Prop} (hd : decode M.2.1 pc = .ok (.iaload, 1)) (hk : i + k < sN g) (hN : sN g ≤ 3072) (K : Ex g M d kc ks (pc + 1) als (.int (sv g (i + k)) :: st) h Q) : Ex g M d kc ks pc als (.int (nI i + nI k) :: .ref (sB g) :: st) h Q := by
  rw [nI_add]
  refine ex_sld hd (vp_in_nI hk (show sN g < 2147483648 by omega)) ?_
  rw [nI_clamp (by omega)]
  exact K
set_option maxHeartbeats 4000000 in
set_option maxRecDepth 100000 in
theorem lc_as {g : Gl} {d kc ks i nt nti tl j : Nat} {ik : Int32} {tf : Nat → Int32} {h : AH} {Q : AH → Option Value → Prop}  (hi : i + 6 ≤ sN g) (hN : sN g ≤ 3072) (hd : 80 ≤ d) (hI : IV g h nt ik nti tf tl j) (K : ∀ h', IV g h' nt ik nti tf tl j → Ex g mL_law d kc ks 1647 [some (.ref (sB g)), some (.ref (g.1 + 0)), some (.ref (g.1 + 75)), some (.int (nI i))] [] h' Q) : Ex g mL_law d kc ks 312 [some (.ref (sB g)), some (.ref (g.1 + 0)), some (.ref (g.1 + 75)), some (.int (nI i))] [] h Q := by
  have hI0 := hI
  obtain ⟨eJ, tB, t96, s, n, im, ni, S, L, wf, c, z, hC, hR, hP⟩ := hI
  have hCR := hC.2.1
  have p8 := hCR.2.1.2.1
  have R1 := hR
  refine ex_aload_n (pc := 312) dL_law_312 rfl ?_
  refine ex_aload_n (pc := 313) dL_law_313 rfl ?_
  refine ex_iload_n (pc := 314) dL_law_314 rfl ?_
  refine ex_iconst (pc := 315) (v := (nI 1)) dL_law_315 (by decide) ?_
  refine ex_iadd (pc := 316) dL_law_316 ?_
  refine ex_scr (pc := 317) dL_law_317 (by omega) hN ?_
  refine ex_aload_n (pc := 318) dL_law_318 rfl ?_
  refine ex_iload_n (pc := 319) dL_law_319 rfl ?_
  refine ex_iconst (pc := 320) (v := (nI 2)) dL_law_320 (by decide) ?_
  refine ex_iadd (pc := 321) dL_law_321 ?_
  refine ex_scr (pc := 322) dL_law_322 (by omega) hN ?_
  refine cx_VL2i (pc := 323) dL_law_323 lk_L_23 hC.1 rfl (Nat.le_of_ble_eq_true rfl) (Nat.le_of_ble_eq_true rfl) (by omega) (c_W_as hC.1 hCR (by omega) _ _) (fun h_323 x_323 q_323 => ?_)
  obtain ⟨e_323, y2⟩ := q_323
  rw [e_323]
  refine ex_aload_n (pc := 326) dL_law_326 rfl ?_
  refine ex_aload_n (pc := 327) dL_law_327 rfl ?_
  refine ex_iload_n (pc := 328) dL_law_328 rfl ?_
  refine ex_iconst (pc := 329) (v := (nI 1)) dL_law_329 (by decide) ?_
  refine ex_iadd (pc := 330) dL_law_330 ?_
  refine ex_scr (pc := 331) dL_law_331 (by omega) hN ?_
  refine ex_aload_n (pc := 332) dL_law_332 rfl ?_
  refine ex_iload_n (pc := 333) dL_law_333 rfl ?_
  refine ex_iconst (pc := 334) (v := (nI 2)) dL_law_334 (by decide) ?_
  refine ex_iadd (pc := 335) dL_law_335 ?_
  refine ex_scr (pc := 336) dL_law_336 (by omega) hN ?_
  refine cx_VL2i (pc := 337) dL_law_337 lk_L_26 R1.1.1.1 rfl (Nat.le_of_ble_eq_true rfl) (Nat.le_of_ble_eq_true rfl) (by omega) (c_M_as R1.1 (by omega) _ _) (fun h_337 x_337 q_337 => ?_)
  obtain ⟨e_337, y4⟩ := q_337
  rw [e_337]
  refine bx_icmp_eq_t (pc := 340) (tgt := 1647) dL_law_340 (by decide) (by rw [y2, y4]) ?_
  exact K _ hI0
set_option maxHeartbeats 4000000 in
set_option maxRecDepth 100000 in
theorem lc_at {g : Gl} {d kc ks i nt nti tl j : Nat} {ik : Int32} {tf : Nat → Int32} {h : AH} {Q : AH → Option Value → Prop}  (hi : i + 6 ≤ sN g) (hN : sN g ≤ 3072) (hd : 80 ≤ d) (hI : IV g h nt ik nti tf tl j) (K : ∀ h', IV g h' nt ik nti tf tl j → Ex g mL_law d kc ks 1647 [some (.ref (sB g)), some (.ref (g.1 + 0)), some (.ref (g.1 + 75)), some (.int (nI i))] [] h' Q) : Ex g mL_law d kc ks 487 [some (.ref (sB g)), some (.ref (g.1 + 0)), some (.ref (g.1 + 75)), some (.int (nI i))] [] h Q := by
  have hI0 := hI
  obtain ⟨eJ, tB, t96, s, n, im, ni, S, L, wf, c, z, hC, hR, hP⟩ := hI
  have hCR := hC.2.1
  have p8 := hCR.2.1.2.1
  have R1 := hR
  refine ex_aload_n (pc := 487) dL_law_487 rfl ?_
  refine ex_aload_n (pc := 488) dL_law_488 rfl ?_
  refine ex_iload_n (pc := 489) dL_law_489 rfl ?_
  refine ex_iconst (pc := 490) (v := (nI 1)) dL_law_490 (by decide) ?_
  refine ex_iadd (pc := 491) dL_law_491 ?_
  refine ex_scr (pc := 492) dL_law_492 (by omega) hN ?_
  refine ex_aload_n (pc := 493) dL_law_493 rfl ?_
  refine ex_iload_n (pc := 494) dL_law_494 rfl ?_
  refine ex_iconst (pc := 495) (v := (nI 2)) dL_law_495 (by decide) ?_
  refine ex_iadd (pc := 496) dL_law_496 ?_
  refine ex_scr (pc := 497) dL_law_497 (by omega) hN ?_
  refine cx_VL2i (pc := 498) dL_law_498 lk_L_43 hC.1 rfl (Nat.le_of_ble_eq_true rfl) (Nat.le_of_ble_eq_true rfl) (by omega) (c_W_at hC.1 hCR hP.1.2.2.1 (by omega) _ _) (fun h_498 x_498 q_498 => ?_)
  obtain ⟨e_498, y2⟩ := q_498
  rw [e_498]
  refine ex_aload_n (pc := 501) dL_law_501 rfl ?_
  refine ex_aload_n (pc := 502) dL_law_502 rfl ?_
  refine ex_iload_n (pc := 503) dL_law_503 rfl ?_
  refine ex_iconst (pc := 504) (v := (nI 1)) dL_law_504 (by decide) ?_
  refine ex_iadd (pc := 505) dL_law_505 ?_
  refine ex_scr (pc := 506) dL_law_506 (by omega) hN ?_
  refine ex_aload_n (pc := 507) dL_law_507 rfl ?_
  refine ex_iload_n (pc := 508) dL_law_508 rfl ?_
  refine ex_iconst (pc := 509) (v := (nI 2)) dL_law_509 (by decide) ?_
  refine ex_iadd (pc := 510) dL_law_510 ?_
  refine ex_scr (pc := 511) dL_law_511 (by omega) hN ?_
  refine cx_VL2i (pc := 512) dL_law_512 lk_L_46 R1.1.1.1 rfl (Nat.le_of_ble_eq_true rfl) (Nat.le_of_ble_eq_true rfl) (by omega) (c_M_at R1.1 (by omega) _ _) (fun h_512 x_512 q_512 => ?_)
  obtain ⟨e_512, y4⟩ := q_512
  rw [e_512]
  refine bx_icmp_eq_t (pc := 515) (tgt := 1647) dL_law_515 (by decide) (by rw [y2, y4]) ?_
  exact K _ hI0
set_option maxHeartbeats 4000000 in
set_option maxRecDepth 100000 in
theorem lc_room {g : Gl} {d kc ks i nt nti tl j : Nat} {ik : Int32} {tf : Nat → Int32} {h : AH} {Q : AH → Option Value → Prop}  (hi : i + 6 ≤ sN g) (hN : sN g ≤ 3072) (hd : 80 ≤ d) (hI : IV g h nt ik nti tf tl j) (K : ∀ h', IV g h' nt ik nti tf tl j → Ex g mL_law d kc ks 1647 [some (.ref (sB g)), some (.ref (g.1 + 0)), some (.ref (g.1 + 75)), some (.int (nI i))] [] h' Q) : Ex g mL_law d kc ks 856 [some (.ref (sB g)), some (.ref (g.1 + 0)), some (.ref (g.1 + 75)), some (.int (nI i))] [] h Q := by
  have hI0 := hI
  obtain ⟨eJ, tB, t96, s, n, im, ni, S, L, wf, c, z, hC, hR, hP⟩ := hI
  have hCR := hC.2.1
  have p8 := hCR.2.1.2.1
  have R1 := hR
  refine ex_aload_n (pc := 856) dL_law_856 rfl ?_
  refine ex_aload_n (pc := 857) dL_law_857 rfl ?_
  refine ex_iload_n (pc := 858) dL_law_858 rfl ?_
  refine ex_iconst (pc := 859) (v := (nI 1)) dL_law_859 (by decide) ?_
  refine ex_iadd (pc := 860) dL_law_860 ?_
  refine ex_scr (pc := 861) dL_law_861 (by omega) hN ?_
  refine cx_VL1i (pc := 862) dL_law_862 lk_L_96 hC.1 rfl (Nat.le_of_ble_eq_true rfl) (Nat.le_of_ble_eq_true rfl) (by omega) (c_W_room hC.1 hCR (by omega) _) (fun h_862 x_862 q_862 => ?_)
  obtain ⟨e_862, y2⟩ := q_862
  rw [e_862]
  refine ex_aload_n (pc := 865) dL_law_865 rfl ?_
  refine ex_aload_n (pc := 866) dL_law_866 rfl ?_
  refine ex_iload_n (pc := 867) dL_law_867 rfl ?_
  refine ex_iconst (pc := 868) (v := (nI 1)) dL_law_868 (by decide) ?_
  refine ex_iadd (pc := 869) dL_law_869 ?_
  refine ex_scr (pc := 870) dL_law_870 (by omega) hN ?_
  refine cx_VL1i (pc := 871) dL_law_871 lk_L_99 R1.1.1.1 rfl (Nat.le_of_ble_eq_true rfl) (Nat.le_of_ble_eq_true rfl) (by omega) (c_M_room R1.1 hP.1.2.2.1 (by omega) _) (fun h_871 x_871 q_871 => ?_)
  obtain ⟨e_871, y4⟩ := q_871
  rw [e_871]
  refine bx_icmp_eq_t (pc := 874) (tgt := 1647) dL_law_874 (by decide) (by rw [y2, y4]) ?_
  exact K _ hI0
set_option maxHeartbeats 4000000 in
set_option maxRecDepth 100000 in
theorem lc_why {g : Gl} {d kc ks i nt nti tl j : Nat} {ik : Int32} {tf : Nat → Int32} {h : AH} {Q : AH → Option Value → Prop}  (hi : i + 6 ≤ sN g) (hN : sN g ≤ 3072) (hd : 80 ≤ d) (hI : IV g h nt ik nti tf tl j) (K : ∀ h', IV g h' nt ik nti tf tl j → Ex g mL_law d kc ks 1647 [some (.ref (sB g)), some (.ref (g.1 + 0)), some (.ref (g.1 + 75)), some (.int (nI i))] [] h' Q) : Ex g mL_law d kc ks 1192 [some (.ref (sB g)), some (.ref (g.1 + 0)), some (.ref (g.1 + 75)), some (.int (nI i))] [] h Q := by
  have hI0 := hI
  obtain ⟨eJ, tB, t96, s, n, im, ni, S, L, wf, c, z, hC, hR, hP⟩ := hI
  have hCR := hC.2.1
  have p8 := hCR.2.1.2.1
  have R1 := hR
  refine ex_aload_n (pc := 1192) dL_law_1192 rfl ?_
  refine ex_aload_n (pc := 1193) dL_law_1193 rfl ?_
  refine ex_iload_n (pc := 1194) dL_law_1194 rfl ?_
  refine ex_iconst (pc := 1195) (v := (nI 1)) dL_law_1195 (by decide) ?_
  refine ex_iadd (pc := 1196) dL_law_1196 ?_
  refine ex_scr (pc := 1197) dL_law_1197 (by omega) hN ?_
  refine cx_VL1i (pc := 1198) dL_law_1198 lk_L_145 hC.1 rfl (Nat.le_of_ble_eq_true rfl) (Nat.le_of_ble_eq_true rfl) (by omega) (c_W_why hC.1 hCR (by omega) _) (fun h_1198 x_1198 q_1198 => ?_)
  obtain ⟨e_1198, y2⟩ := q_1198
  rw [e_1198]
  refine ex_aload_n (pc := 1201) dL_law_1201 rfl ?_
  refine ex_aload_n (pc := 1202) dL_law_1202 rfl ?_
  refine ex_iload_n (pc := 1203) dL_law_1203 rfl ?_
  refine ex_iconst (pc := 1204) (v := (nI 1)) dL_law_1204 (by decide) ?_
  refine ex_iadd (pc := 1205) dL_law_1205 ?_
  refine ex_scr (pc := 1206) dL_law_1206 (by omega) hN ?_
  refine cx_VL1i (pc := 1207) dL_law_1207 lk_L_148 R1.1.1.1 rfl (Nat.le_of_ble_eq_true rfl) (Nat.le_of_ble_eq_true rfl) (by omega) (c_M_why R1.1 (by omega) _) (fun h_1207 x_1207 q_1207 => ?_)
  obtain ⟨e_1207, y4⟩ := q_1207
  rw [e_1207]
  refine bx_icmp_eq_t (pc := 1210) (tgt := 1647) dL_law_1210 (by decide) (by rw [y2, y4]) ?_
  exact K _ hI0
set_option maxHeartbeats 4000000 in
set_option maxRecDepth 100000 in
theorem lc_textTold {g : Gl} {d kc ks i nt nti tl j : Nat} {ik : Int32} {tf : Nat → Int32} {h : AH} {Q : AH → Option Value → Prop}  (hi : i + 6 ≤ sN g) (hN : sN g ≤ 3072) (hd : 80 ≤ d) (hI : IV g h nt ik nti tf tl j) (K : ∀ h', IV g h' nt ik nti tf tl j → Ex g mL_law d kc ks 1647 [some (.ref (sB g)), some (.ref (g.1 + 0)), some (.ref (g.1 + 75)), some (.int (nI i))] [] h' Q) : Ex g mL_law d kc ks 1159 [some (.ref (sB g)), some (.ref (g.1 + 0)), some (.ref (g.1 + 75)), some (.int (nI i))] [] h Q := by
  have hI0 := hI
  obtain ⟨eJ, tB, t96, s, n, im, ni, S, L, wf, c, z, hC, hR, hP⟩ := hI
  have hCR := hC.2.1
  have p8 := hCR.2.1.2.1
  have R1 := hR
  refine ex_aload_n (pc := 1159) dL_law_1159 rfl ?_
  refine ex_aload_n (pc := 1160) dL_law_1160 rfl ?_
  refine ex_iload_n (pc := 1161) dL_law_1161 rfl ?_
  refine ex_iconst (pc := 1162) (v := (nI 1)) dL_law_1162 (by decide) ?_
  refine ex_iadd (pc := 1163) dL_law_1163 ?_
  refine ex_scr (pc := 1164) dL_law_1164 (by omega) hN ?_
  refine ex_aload_n (pc := 1165) dL_law_1165 rfl ?_
  refine ex_iload_n (pc := 1166) dL_law_1166 rfl ?_
  refine ex_iconst (pc := 1167) (v := (nI 2)) dL_law_1167 (by decide) ?_
  refine ex_iadd (pc := 1168) dL_law_1168 ?_
  refine ex_scr (pc := 1169) dL_law_1169 (by omega) hN ?_
  refine cx_VL2i (pc := 1170) dL_law_1170 lk_L_141 hC.1 rfl (Nat.le_of_ble_eq_true rfl) (Nat.le_of_ble_eq_true rfl) (by omega) (c_W_textTold hC.1 hCR (by omega) _ _) (fun h_1170 x_1170 q_1170 => ?_)
  obtain ⟨e_1170, y2⟩ := q_1170
  rw [e_1170]
  refine ex_aload_n (pc := 1173) dL_law_1173 rfl ?_
  refine ex_aload_n (pc := 1174) dL_law_1174 rfl ?_
  refine ex_iload_n (pc := 1175) dL_law_1175 rfl ?_
  refine ex_iconst (pc := 1176) (v := (nI 1)) dL_law_1176 (by decide) ?_
  refine ex_iadd (pc := 1177) dL_law_1177 ?_
  refine ex_scr (pc := 1178) dL_law_1178 (by omega) hN ?_
  refine ex_aload_n (pc := 1179) dL_law_1179 rfl ?_
  refine ex_iload_n (pc := 1180) dL_law_1180 rfl ?_
  refine ex_iconst (pc := 1181) (v := (nI 2)) dL_law_1181 (by decide) ?_
  refine ex_iadd (pc := 1182) dL_law_1182 ?_
  refine ex_scr (pc := 1183) dL_law_1183 (by omega) hN ?_
  refine cx_VL2i (pc := 1184) dL_law_1184 lk_L_144 R1.1.1.1 rfl (Nat.le_of_ble_eq_true rfl) (Nat.le_of_ble_eq_true rfl) (by omega) (c_M_textTold R1.1 (by omega) _ _) (fun h_1184 x_1184 q_1184 => ?_)
  obtain ⟨e_1184, y4⟩ := q_1184
  rw [e_1184]
  refine bx_icmp_eq_t (pc := 1187) (tgt := 1647) dL_law_1187 (by decide) (by rw [y2, y4]) ?_
  exact K _ hI0
set_option maxHeartbeats 4000000 in
set_option maxRecDepth 100000 in
theorem lc_reads {g : Gl} {d kc ks i nt nti tl j : Nat} {ik : Int32} {tf : Nat → Int32} {h : AH} {Q : AH → Option Value → Prop}  (hi : i + 6 ≤ sN g) (hN : sN g ≤ 3072) (hd : 80 ≤ d) (hI : IV g h nt ik nti tf tl j) (K : ∀ h', IV g h' nt ik nti tf tl j → Ex g mL_law d kc ks 1647 [some (.ref (sB g)), some (.ref (g.1 + 0)), some (.ref (g.1 + 75)), some (.int (nI i))] [] h' Q) : Ex g mL_law d kc ks 1324 [some (.ref (sB g)), some (.ref (g.1 + 0)), some (.ref (g.1 + 75)), some (.int (nI i))] [] h Q := by
  have hI0 := hI
  obtain ⟨eJ, tB, t96, s, n, im, ni, S, L, wf, c, z, hC, hR, hP⟩ := hI
  have hCR := hC.2.1
  have p8 := hCR.2.1.2.1
  have R1 := hR
  refine ex_aload_n (pc := 1324) dL_law_1324 rfl ?_
  refine ex_aload_n (pc := 1325) dL_law_1325 rfl ?_
  refine ex_iload_n (pc := 1326) dL_law_1326 rfl ?_
  refine ex_iconst (pc := 1327) (v := (nI 1)) dL_law_1327 (by decide) ?_
  refine ex_iadd (pc := 1328) dL_law_1328 ?_
  refine ex_scr (pc := 1329) dL_law_1329 (by omega) hN ?_
  refine cx_VL1i (pc := 1330) dL_law_1330 lk_L_161 hC.1 rfl (Nat.le_of_ble_eq_true rfl) (Nat.le_of_ble_eq_true rfl) (by omega) (c_W_reads hC.1 hCR hC.2.2.2.2.2.1 hP.2.2.2.1 (by omega) _) (fun h_1330 x_1330 q_1330 => ?_)
  obtain ⟨e_1330, y2⟩ := q_1330
  rw [e_1330]
  refine ex_aload_n (pc := 1333) dL_law_1333 rfl ?_
  refine ex_aload_n (pc := 1334) dL_law_1334 rfl ?_
  refine ex_iload_n (pc := 1335) dL_law_1335 rfl ?_
  refine ex_iconst (pc := 1336) (v := (nI 1)) dL_law_1336 (by decide) ?_
  refine ex_iadd (pc := 1337) dL_law_1337 ?_
  refine ex_scr (pc := 1338) dL_law_1338 (by omega) hN ?_
  refine cx_VL1i (pc := 1339) dL_law_1339 lk_L_164 R1.1.1.1 rfl (Nat.le_of_ble_eq_true rfl) (Nat.le_of_ble_eq_true rfl) (by omega) (c_M_reads R1.1 R1.2.2.2.2.1 hP.2.2.2.1 (by omega) _) (fun h_1339 x_1339 q_1339 => ?_)
  obtain ⟨e_1339, y4⟩ := q_1339
  rw [e_1339]
  refine bx_icmp_eq_t (pc := 1342) (tgt := 1647) dL_law_1342 (by decide) (by rw [y2, y4]) ?_
  exact K _ hI0
set_option maxHeartbeats 4000000 in
set_option maxRecDepth 100000 in
theorem lc_ask {g : Gl} {d kc ks i nt nti tl j : Nat} {ik : Int32} {tf : Nat → Int32} {h : AH} {Q : AH → Option Value → Prop}  (hi : i + 6 ≤ sN g) (hN : sN g ≤ 3072) (hd : 80 ≤ d) (hI : IV g h nt ik nti tf tl j) (K : ∀ h', IV g h' nt ik nti tf tl j → Ex g mL_law d kc ks 1647 [some (.ref (sB g)), some (.ref (g.1 + 0)), some (.ref (g.1 + 75)), some (.int (nI i))] [] h' Q) : Ex g mL_law d kc ks 1453 [some (.ref (sB g)), some (.ref (g.1 + 0)), some (.ref (g.1 + 75)), some (.int (nI i))] [] h Q := by
  have hI0 := hI
  obtain ⟨eJ, tB, t96, s, n, im, ni, S, L, wf, c, z, hC, hR, hP⟩ := hI
  have hCR := hC.2.1
  have p8 := hCR.2.1.2.1
  have R1 := hR
  refine ex_aload_n (pc := 1453) dL_law_1453 rfl ?_
  refine ex_aload_n (pc := 1454) dL_law_1454 rfl ?_
  refine ex_iload_n (pc := 1455) dL_law_1455 rfl ?_
  refine ex_iconst (pc := 1456) (v := (nI 1)) dL_law_1456 (by decide) ?_
  refine ex_iadd (pc := 1457) dL_law_1457 ?_
  refine ex_scr (pc := 1458) dL_law_1458 (by omega) hN ?_
  refine ex_aload_n (pc := 1459) dL_law_1459 rfl ?_
  refine ex_iload_n (pc := 1460) dL_law_1460 rfl ?_
  refine ex_iconst (pc := 1461) (v := (nI 2)) dL_law_1461 (by decide) ?_
  refine ex_iadd (pc := 1462) dL_law_1462 ?_
  refine ex_scr (pc := 1463) dL_law_1463 (by omega) hN ?_
  refine cx_VL2i (pc := 1464) dL_law_1464 lk_L_174 hC.1 rfl (Nat.le_of_ble_eq_true rfl) (Nat.le_of_ble_eq_true rfl) (by omega) (c_W_ask hC.1 hC.2.2.2.2.2.2.1 hP.2.2.2.2.1 (by omega) _ _) (fun h_1464 x_1464 q_1464 => ?_)
  obtain ⟨e_1464, y2⟩ := q_1464
  rw [e_1464]
  refine ex_aload_n (pc := 1467) dL_law_1467 rfl ?_
  refine ex_aload_n (pc := 1468) dL_law_1468 rfl ?_
  refine ex_iload_n (pc := 1469) dL_law_1469 rfl ?_
  refine ex_iconst (pc := 1470) (v := (nI 1)) dL_law_1470 (by decide) ?_
  refine ex_iadd (pc := 1471) dL_law_1471 ?_
  refine ex_scr (pc := 1472) dL_law_1472 (by omega) hN ?_
  refine ex_aload_n (pc := 1473) dL_law_1473 rfl ?_
  refine ex_iload_n (pc := 1474) dL_law_1474 rfl ?_
  refine ex_iconst (pc := 1475) (v := (nI 2)) dL_law_1475 (by decide) ?_
  refine ex_iadd (pc := 1476) dL_law_1476 ?_
  refine ex_scr (pc := 1477) dL_law_1477 (by omega) hN ?_
  refine cx_VL2i (pc := 1478) dL_law_1478 lk_L_177 R1.1.1.1 rfl (Nat.le_of_ble_eq_true rfl) (Nat.le_of_ble_eq_true rfl) (by omega) (c_M_ask R1.1.1 R1.2.2.2.2.2.1 hP.2.2.2.2.1 (by omega) _ _) (fun h_1478 x_1478 q_1478 => ?_)
  obtain ⟨e_1478, y4⟩ := q_1478
  rw [e_1478]
  refine bx_icmp_eq_t (pc := 1481) (tgt := 1647) dL_law_1481 (by decide) (by rw [y2, y4]) ?_
  exact K _ hI0
set_option maxHeartbeats 4000000 in
set_option maxRecDepth 100000 in
theorem lc_item {g : Gl} {d kc ks i nt nti tl j : Nat} {ik : Int32} {tf : Nat → Int32} {h : AH} {Q : AH → Option Value → Prop}  (hi : i + 6 ≤ sN g) (hN : sN g ≤ 3072) (hd : 80 ≤ d) (hI : IV g h nt ik nti tf tl j) (K : ∀ h', IV g h' nt ik nti tf tl j → Ex g mL_law d kc ks 1647 [some (.ref (sB g)), some (.ref (g.1 + 0)), some (.ref (g.1 + 75)), some (.int (nI i))] [] h' Q) : Ex g mL_law d kc ks 1486 [some (.ref (sB g)), some (.ref (g.1 + 0)), some (.ref (g.1 + 75)), some (.int (nI i))] [] h Q := by
  have hI0 := hI
  obtain ⟨eJ, tB, t96, s, n, im, ni, S, L, wf, c, z, hC, hR, hP⟩ := hI
  have hCR := hC.2.1
  have p8 := hCR.2.1.2.1
  have R1 := hR
  refine ex_aload_n (pc := 1486) dL_law_1486 rfl ?_
  refine ex_aload_n (pc := 1487) dL_law_1487 rfl ?_
  refine ex_iload_n (pc := 1488) dL_law_1488 rfl ?_
  refine ex_iconst (pc := 1489) (v := (nI 1)) dL_law_1489 (by decide) ?_
  refine ex_iadd (pc := 1490) dL_law_1490 ?_
  refine ex_scr (pc := 1491) dL_law_1491 (by omega) hN ?_
  refine ex_aload_n (pc := 1492) dL_law_1492 rfl ?_
  refine ex_iload_n (pc := 1493) dL_law_1493 rfl ?_
  refine ex_iconst (pc := 1494) (v := (nI 2)) dL_law_1494 (by decide) ?_
  refine ex_iadd (pc := 1495) dL_law_1495 ?_
  refine ex_scr (pc := 1496) dL_law_1496 (by omega) hN ?_
  refine cx_VL2i (pc := 1497) dL_law_1497 lk_L_178 hC.1 rfl (Nat.le_of_ble_eq_true rfl) (Nat.le_of_ble_eq_true rfl) (by omega) (c_W_item hC.1 hC.2.2.2.2.2.2.1 hP.2.2.2.2.1 (by omega) _ _) (fun h_1497 x_1497 q_1497 => ?_)
  obtain ⟨e_1497, y2⟩ := q_1497
  rw [e_1497]
  refine ex_aload_n (pc := 1500) dL_law_1500 rfl ?_
  refine ex_aload_n (pc := 1501) dL_law_1501 rfl ?_
  refine ex_iload_n (pc := 1502) dL_law_1502 rfl ?_
  refine ex_iconst (pc := 1503) (v := (nI 1)) dL_law_1503 (by decide) ?_
  refine ex_iadd (pc := 1504) dL_law_1504 ?_
  refine ex_scr (pc := 1505) dL_law_1505 (by omega) hN ?_
  refine ex_aload_n (pc := 1506) dL_law_1506 rfl ?_
  refine ex_iload_n (pc := 1507) dL_law_1507 rfl ?_
  refine ex_iconst (pc := 1508) (v := (nI 2)) dL_law_1508 (by decide) ?_
  refine ex_iadd (pc := 1509) dL_law_1509 ?_
  refine ex_scr (pc := 1510) dL_law_1510 (by omega) hN ?_
  refine cx_VL2i (pc := 1511) dL_law_1511 lk_L_181 R1.1.1.1 rfl (Nat.le_of_ble_eq_true rfl) (Nat.le_of_ble_eq_true rfl) (by omega) (c_M_item R1.1.1 R1.2.2.2.2.2.1 hP.2.2.2.2.1 (by omega) _ _) (fun h_1511 x_1511 q_1511 => ?_)
  obtain ⟨e_1511, y4⟩ := q_1511
  rw [e_1511]
  refine bx_icmp_eq_t (pc := 1514) (tgt := 1647) dL_law_1514 (by decide) (by rw [y2, y4]) ?_
  exact K _ hI0
set_option maxHeartbeats 4000000 in
set_option maxRecDepth 100000 in
theorem lc_rest {g : Gl} {d kc ks i nt nti tl j : Nat} {ik : Int32} {tf : Nat → Int32} {h : AH} {Q : AH → Option Value → Prop}  (hi : i + 6 ≤ sN g) (hN : sN g ≤ 3072) (hd : 80 ≤ d) (hI : IV g h nt ik nti tf tl j) (K : ∀ h', IV g h' nt ik nti tf tl j → Ex g mL_law d kc ks 1647 [some (.ref (sB g)), some (.ref (g.1 + 0)), some (.ref (g.1 + 75)), some (.int (nI i))] [] h' Q) : Ex g mL_law d kc ks 1519 [some (.ref (sB g)), some (.ref (g.1 + 0)), some (.ref (g.1 + 75)), some (.int (nI i))] [] h Q := by
  have hI0 := hI
  obtain ⟨eJ, tB, t96, s, n, im, ni, S, L, wf, c, z, hC, hR, hP⟩ := hI
  have hCR := hC.2.1
  have p8 := hCR.2.1.2.1
  have R1 := hR
  refine ex_aload_n (pc := 1519) dL_law_1519 rfl ?_
  refine ex_aload_n (pc := 1520) dL_law_1520 rfl ?_
  refine ex_iload_n (pc := 1521) dL_law_1521 rfl ?_
  refine ex_iconst (pc := 1522) (v := (nI 1)) dL_law_1522 (by decide) ?_
  refine ex_iadd (pc := 1523) dL_law_1523 ?_
  refine ex_scr (pc := 1524) dL_law_1524 (by omega) hN ?_
  refine ex_aload_n (pc := 1525) dL_law_1525 rfl ?_
  refine ex_iload_n (pc := 1526) dL_law_1526 rfl ?_
  refine ex_iconst (pc := 1527) (v := (nI 2)) dL_law_1527 (by decide) ?_
  refine ex_iadd (pc := 1528) dL_law_1528 ?_
  refine ex_scr (pc := 1529) dL_law_1529 (by omega) hN ?_
  refine cx_VL2i (pc := 1530) dL_law_1530 lk_L_182 hC.1 rfl (Nat.le_of_ble_eq_true rfl) (Nat.le_of_ble_eq_true rfl) (by omega) (c_W_rest hC.1 hC.2.2.2.2.2.2.1 hP.2.2.2.2.1 (by omega) _ _) (fun h_1530 x_1530 q_1530 => ?_)
  obtain ⟨e_1530, y2⟩ := q_1530
  rw [e_1530]
  refine ex_aload_n (pc := 1533) dL_law_1533 rfl ?_
  refine ex_aload_n (pc := 1534) dL_law_1534 rfl ?_
  refine ex_iload_n (pc := 1535) dL_law_1535 rfl ?_
  refine ex_iconst (pc := 1536) (v := (nI 1)) dL_law_1536 (by decide) ?_
  refine ex_iadd (pc := 1537) dL_law_1537 ?_
  refine ex_scr (pc := 1538) dL_law_1538 (by omega) hN ?_
  refine ex_aload_n (pc := 1539) dL_law_1539 rfl ?_
  refine ex_iload_n (pc := 1540) dL_law_1540 rfl ?_
  refine ex_iconst (pc := 1541) (v := (nI 2)) dL_law_1541 (by decide) ?_
  refine ex_iadd (pc := 1542) dL_law_1542 ?_
  refine ex_scr (pc := 1543) dL_law_1543 (by omega) hN ?_
  refine cx_VL2i (pc := 1544) dL_law_1544 lk_L_185 R1.1.1.1 rfl (Nat.le_of_ble_eq_true rfl) (Nat.le_of_ble_eq_true rfl) (by omega) (c_M_rest R1.1.1 R1.2.2.2.2.2.1 hP.2.2.2.2.1 (by omega) _ _) (fun h_1544 x_1544 q_1544 => ?_)
  obtain ⟨e_1544, y4⟩ := q_1544
  rw [e_1544]
  refine bx_icmp_eq_t (pc := 1547) (tgt := 1647) dL_law_1547 (by decide) (by rw [y2, y4]) ?_
  exact K _ hI0
set_option maxHeartbeats 4000000 in
set_option maxRecDepth 100000 in
theorem lc_count {g : Gl} {d kc ks i nt nti tl j : Nat} {ik : Int32} {tf : Nat → Int32} {h : AH} {Q : AH → Option Value → Prop}  (hi : i + 6 ≤ sN g) (hN : sN g ≤ 3072) (hd : 80 ≤ d) (hI : IV g h nt ik nti tf tl j) (K : ∀ h', IV g h' nt ik nti tf tl j → Ex g mL_law d kc ks 1647 [some (.ref (sB g)), some (.ref (g.1 + 0)), some (.ref (g.1 + 75)), some (.int (nI i))] [] h' Q) : Ex g mL_law d kc ks 1624 [some (.ref (sB g)), some (.ref (g.1 + 0)), some (.ref (g.1 + 75)), some (.int (nI i))] [] h Q := by
  have hI0 := hI
  obtain ⟨eJ, tB, t96, s, n, im, ni, S, L, wf, c, z, hC, hR, hP⟩ := hI
  have hCR := hC.2.1
  have p8 := hCR.2.1.2.1
  have R1 := hR
  obtain ⟨r, r1, -⟩ := hC.2.2.2.2.1
  refine ex_aload_n (pc := 1624) dL_law_1624 rfl ?_
  refine ex_aload_n (pc := 1625) dL_law_1625 rfl ?_
  refine ex_iload_n (pc := 1626) dL_law_1626 rfl ?_
  refine ex_iconst (pc := 1627) (v := (nI 1)) dL_law_1627 (by decide) ?_
  refine ex_iadd (pc := 1628) dL_law_1628 ?_
  refine ex_scr (pc := 1629) dL_law_1629 (by omega) hN ?_
  refine cx_VL1i (pc := 1630) dL_law_1630 lk_L_202 hC.1 rfl (Nat.le_of_ble_eq_true rfl) (Nat.le_of_ble_eq_true rfl) (by omega) (c_W_count hC.1 hCR r1.1 _) (fun h_1630 x_1630 q_1630 => ?_)
  obtain ⟨e_1630, y2⟩ := q_1630
  rw [e_1630]
  refine ex_aload_n (pc := 1633) dL_law_1633 rfl ?_
  refine ex_aload_n (pc := 1634) dL_law_1634 rfl ?_
  refine ex_iload_n (pc := 1635) dL_law_1635 rfl ?_
  refine ex_iconst (pc := 1636) (v := (nI 1)) dL_law_1636 (by decide) ?_
  refine ex_iadd (pc := 1637) dL_law_1637 ?_
  refine ex_scr (pc := 1638) dL_law_1638 (by omega) hN ?_
  refine cx_VL1i (pc := 1639) dL_law_1639 lk_L_205 R1.1.1.1 rfl (Nat.le_of_ble_eq_true rfl) (Nat.le_of_ble_eq_true rfl) (by omega) (c_M_count R1.1 _) (fun h_1639 x_1639 q_1639 => ?_)
  obtain ⟨e_1639, y4⟩ := q_1639
  rw [e_1639]
  refine bx_icmp_eq_t (pc := 1642) (tgt := 1647) dL_law_1642 (by decide) (by rw [y2, y4, hR.2.1.2.2, hR.2.1.2.1, r1.2.2.1]) ?_
  exact K _ hI0
set_option maxHeartbeats 4000000 in
set_option maxRecDepth 100000 in
theorem lc_told {g : Gl} {d kc ks i nt nti tl j : Nat} {ik : Int32} {tf : Nat → Int32} {h : AH} {Q : AH → Option Value → Prop}  (hi : i + 6 ≤ sN g) (hN : sN g ≤ 3072) (hd : 80 ≤ d) (hI : IV g h nt ik nti tf tl j) (K : ∀ h', IV g h' nt ik nti tf tl j → Ex g mL_law d kc ks 1647 [some (.ref (sB g)), some (.ref (g.1 + 0)), some (.ref (g.1 + 75)), some (.int (nI i))] [] h' Q) : Ex g mL_law d kc ks 279 [some (.ref (sB g)), some (.ref (g.1 + 0)), some (.ref (g.1 + 75)), some (.int (nI i))] [] h Q := by
  have hI0 := hI
  obtain ⟨eJ, tB, t96, s, n, im, ni, S, L, wf, c, z, hC, hR, hP⟩ := hI
  have hCR := hC.2.1
  have p8 := hCR.2.1.2.1
  refine ex_aload_n (pc := 279) dL_law_279 rfl ?_
  refine ex_aload_n (pc := 280) dL_law_280 rfl ?_
  refine ex_iload_n (pc := 281) dL_law_281 rfl ?_
  refine ex_iconst (pc := 282) (v := (nI 1)) dL_law_282 (by decide) ?_
  refine ex_iadd (pc := 283) dL_law_283 ?_
  refine ex_scr (pc := 284) dL_law_284 (by omega) hN ?_
  refine ex_aload_n (pc := 285) dL_law_285 rfl ?_
  refine ex_iload_n (pc := 286) dL_law_286 rfl ?_
  refine ex_iconst (pc := 287) (v := (nI 2)) dL_law_287 (by decide) ?_
  refine ex_iadd (pc := 288) dL_law_288 ?_
  refine ex_scr (pc := 289) dL_law_289 (by omega) hN ?_
  refine cx_VL2i (pc := 290) dL_law_290 lk_L_18 hC.1 rfl (Nat.le_of_ble_eq_true rfl) (Nat.le_of_ble_eq_true rfl) (by omega) (c_W_told hC.1 hCR (by omega) _ _) (fun h_290 x_290 q_290 => ?_)
  obtain ⟨y1, y2⟩ := q_290
  have u1 : FrX (fun _ => False) g h h_290 := y1.fr
  have C1 := hC.fr u1 (fun _ z => z.elim)
  have R1 := hR.fr u1 (fun _ z => z.elim)
  refine ex_aload_n (pc := 293) dL_law_293 rfl ?_
  refine ex_aload_n (pc := 294) dL_law_294 rfl ?_
  refine ex_iload_n (pc := 295) dL_law_295 rfl ?_
  refine ex_iconst (pc := 296) (v := (nI 1)) dL_law_296 (by decide) ?_
  refine ex_iadd (pc := 297) dL_law_297 ?_
  refine ex_scr (pc := 298) dL_law_298 (by omega) hN ?_
  refine ex_aload_n (pc := 299) dL_law_299 rfl ?_
  refine ex_iload_n (pc := 300) dL_law_300 rfl ?_
  refine ex_iconst (pc := 301) (v := (nI 2)) dL_law_301 (by decide) ?_
  refine ex_iadd (pc := 302) dL_law_302 ?_
  refine ex_scr (pc := 303) dL_law_303 (by omega) hN ?_
  refine cx_VL2i (pc := 304) dL_law_304 lk_L_22 R1.1.1.1 rfl (Nat.le_of_ble_eq_true rfl) (Nat.le_of_ble_eq_true rfl) (by omega) (c_M_told R1.1 (by omega) _ _) (fun h_304 x_304 q_304 => ?_)
  obtain ⟨y3, y4⟩ := q_304
  have u2 : FrX (fun _ => False) g h_290 h_304 := y3.fr
  have C2 := C1.fr u2 (fun _ z => z.elim)
  have R2 := R1.fr u2 (fun _ z => z.elim)
  refine bx_icmp_eq_t (pc := 307) (tgt := 1647) dL_law_307 (by decide) (by rw [y2, y4]) ?_
  exact K _ (IV.mk ((u2.1.trans u1.1).trans eJ) tB t96 C2 R2 hP)
set_option maxHeartbeats 4000000 in
set_option maxRecDepth 100000 in
theorem lc_sees {g : Gl} {d kc ks i nt nti tl j : Nat} {ik : Int32} {tf : Nat → Int32} {h : AH} {Q : AH → Option Value → Prop}  (hi : i + 6 ≤ sN g) (hN : sN g ≤ 3072) (hd : 80 ≤ d) (hI : IV g h nt ik nti tf tl j) (K : ∀ h', IV g h' nt ik nti tf tl j → Ex g mL_law d kc ks 1647 [some (.ref (sB g)), some (.ref (g.1 + 0)), some (.ref (g.1 + 75)), some (.int (nI i))] [] h' Q) : Ex g mL_law d kc ks 622 [some (.ref (sB g)), some (.ref (g.1 + 0)), some (.ref (g.1 + 75)), some (.int (nI i))] [] h Q := by
  have hI0 := hI
  obtain ⟨eJ, tB, t96, s, n, im, ni, S, L, wf, c, z, hC, hR, hP⟩ := hI
  have hCR := hC.2.1
  have p8 := hCR.2.1.2.1
  refine ex_aload_n (pc := 622) dL_law_622 rfl ?_
  refine ex_aload_n (pc := 623) dL_law_623 rfl ?_
  refine ex_iload_n (pc := 624) dL_law_624 rfl ?_
  refine ex_iconst (pc := 625) (v := (nI 1)) dL_law_625 (by decide) ?_
  refine ex_iadd (pc := 626) dL_law_626 ?_
  refine ex_scr (pc := 627) dL_law_627 (by omega) hN ?_
  refine ex_aload_n (pc := 628) dL_law_628 rfl ?_
  refine ex_iload_n (pc := 629) dL_law_629 rfl ?_
  refine ex_iconst (pc := 630) (v := (nI 2)) dL_law_630 (by decide) ?_
  refine ex_iadd (pc := 631) dL_law_631 ?_
  refine ex_scr (pc := 632) dL_law_632 (by omega) hN ?_
  refine cx_VL2i (pc := 633) dL_law_633 lk_L_64 hC.1 rfl (Nat.le_of_ble_eq_true rfl) (Nat.le_of_ble_eq_true rfl) (by omega) (c_W_sees hC.1 hCR (by omega) _ _) (fun h_633 x_633 q_633 => ?_)
  obtain ⟨y1, y2⟩ := q_633
  have u1 : FrX (fun _ => False) g h h_633 := y1.fr
  have C1 := hC.fr u1 (fun _ z => z.elim)
  have R1 := hR.fr u1 (fun _ z => z.elim)
  refine ex_aload_n (pc := 636) dL_law_636 rfl ?_
  refine ex_aload_n (pc := 637) dL_law_637 rfl ?_
  refine ex_iload_n (pc := 638) dL_law_638 rfl ?_
  refine ex_iconst (pc := 639) (v := (nI 1)) dL_law_639 (by decide) ?_
  refine ex_iadd (pc := 640) dL_law_640 ?_
  refine ex_scr (pc := 641) dL_law_641 (by omega) hN ?_
  refine ex_aload_n (pc := 642) dL_law_642 rfl ?_
  refine ex_iload_n (pc := 643) dL_law_643 rfl ?_
  refine ex_iconst (pc := 644) (v := (nI 2)) dL_law_644 (by decide) ?_
  refine ex_iadd (pc := 645) dL_law_645 ?_
  refine ex_scr (pc := 646) dL_law_646 (by omega) hN ?_
  refine cx_VL2i (pc := 647) dL_law_647 lk_L_67 R1.1.1.1 rfl (Nat.le_of_ble_eq_true rfl) (Nat.le_of_ble_eq_true rfl) (by omega) (c_M_sees R1.1 (by omega) _ _) (fun h_647 x_647 q_647 => ?_)
  obtain ⟨y3, y4⟩ := q_647
  have u2 : FrX (fun _ => False) g h_633 h_647 := y3.fr
  have C2 := C1.fr u2 (fun _ z => z.elim)
  have R2 := R1.fr u2 (fun _ z => z.elim)
  refine bx_icmp_eq_t (pc := 650) (tgt := 1647) dL_law_650 (by decide) (by rw [y2, y4]) ?_
  exact K _ (IV.mk ((u2.1.trans u1.1).trans eJ) tB t96 C2 R2 hP)
set_option maxHeartbeats 4000000 in
set_option maxRecDepth 100000 in
theorem lc_row {g : Gl} {d kc ks i nt nti tl j : Nat} {ik : Int32} {tf : Nat → Int32} {h : AH} {Q : AH → Option Value → Prop}  (hi : i + 6 ≤ sN g) (hN : sN g ≤ 3072) (hd : 80 ≤ d) (hI : IV g h nt ik nti tf tl j) (K : ∀ h', IV g h' nt ik nti tf tl j → Ex g mL_law d kc ks 1647 [some (.ref (sB g)), some (.ref (g.1 + 0)), some (.ref (g.1 + 75)), some (.int (nI i))] [] h' Q) : Ex g mL_law d kc ks 655 [some (.ref (sB g)), some (.ref (g.1 + 0)), some (.ref (g.1 + 75)), some (.int (nI i))] [] h Q := by
  have hI0 := hI
  obtain ⟨eJ, tB, t96, s, n, im, ni, S, L, wf, c, z, hC, hR, hP⟩ := hI
  have hCR := hC.2.1
  have p8 := hCR.2.1.2.1
  refine ex_aload_n (pc := 655) dL_law_655 rfl ?_
  refine ex_aload_n (pc := 656) dL_law_656 rfl ?_
  refine ex_iload_n (pc := 657) dL_law_657 rfl ?_
  refine ex_iconst (pc := 658) (v := (nI 1)) dL_law_658 (by decide) ?_
  refine ex_iadd (pc := 659) dL_law_659 ?_
  refine ex_scr (pc := 660) dL_law_660 (by omega) hN ?_
  refine ex_aload_n (pc := 661) dL_law_661 rfl ?_
  refine ex_iload_n (pc := 662) dL_law_662 rfl ?_
  refine ex_iconst (pc := 663) (v := (nI 2)) dL_law_663 (by decide) ?_
  refine ex_iadd (pc := 664) dL_law_664 ?_
  refine ex_scr (pc := 665) dL_law_665 (by omega) hN ?_
  refine cx_VL2i (pc := 666) dL_law_666 lk_L_68 hC.1 rfl (Nat.le_of_ble_eq_true rfl) (Nat.le_of_ble_eq_true rfl) (by omega) (c_W_row hC.1 hCR (by omega) _ _) (fun h_666 x_666 q_666 => ?_)
  obtain ⟨y1, y2⟩ := q_666
  have u1 : FrX (fun _ => False) g h h_666 := y1.fr
  have C1 := hC.fr u1 (fun _ z => z.elim)
  have R1 := hR.fr u1 (fun _ z => z.elim)
  refine ex_aload_n (pc := 669) dL_law_669 rfl ?_
  refine ex_aload_n (pc := 670) dL_law_670 rfl ?_
  refine ex_iload_n (pc := 671) dL_law_671 rfl ?_
  refine ex_iconst (pc := 672) (v := (nI 1)) dL_law_672 (by decide) ?_
  refine ex_iadd (pc := 673) dL_law_673 ?_
  refine ex_scr (pc := 674) dL_law_674 (by omega) hN ?_
  refine ex_aload_n (pc := 675) dL_law_675 rfl ?_
  refine ex_iload_n (pc := 676) dL_law_676 rfl ?_
  refine ex_iconst (pc := 677) (v := (nI 2)) dL_law_677 (by decide) ?_
  refine ex_iadd (pc := 678) dL_law_678 ?_
  refine ex_scr (pc := 679) dL_law_679 (by omega) hN ?_
  refine cx_VL2i (pc := 680) dL_law_680 lk_L_71 R1.1.1.1 rfl (Nat.le_of_ble_eq_true rfl) (Nat.le_of_ble_eq_true rfl) (by omega) (c_M_row R1.1 (by omega) _ _) (fun h_680 x_680 q_680 => ?_)
  obtain ⟨y3, y4⟩ := q_680
  have u2 : FrX (fun _ => False) g h_666 h_680 := y3.fr
  have C2 := C1.fr u2 (fun _ z => z.elim)
  have R2 := R1.fr u2 (fun _ z => z.elim)
  refine bx_icmp_eq_t (pc := 683) (tgt := 1647) dL_law_683 (by decide) (by rw [y2, y4]) ?_
  exact K _ (IV.mk ((u2.1.trans u1.1).trans eJ) tB t96 C2 R2 hP)
set_option maxHeartbeats 4000000 in
set_option maxRecDepth 100000 in
theorem lc_watched {g : Gl} {d kc ks i nt nti tl j : Nat} {ik : Int32} {tf : Nat → Int32} {h : AH} {Q : AH → Option Value → Prop}  (hi : i + 6 ≤ sN g) (hN : sN g ≤ 3072) (hd : 80 ≤ d) (hI : IV g h nt ik nti tf tl j) (K : ∀ h', IV g h' nt ik nti tf tl j → Ex g mL_law d kc ks 1647 [some (.ref (sB g)), some (.ref (g.1 + 0)), some (.ref (g.1 + 75)), some (.int (nI i))] [] h' Q) : Ex g mL_law d kc ks 688 [some (.ref (sB g)), some (.ref (g.1 + 0)), some (.ref (g.1 + 75)), some (.int (nI i))] [] h Q := by
  have hI0 := hI
  obtain ⟨eJ, tB, t96, s, n, im, ni, S, L, wf, c, z, hC, hR, hP⟩ := hI
  have hCR := hC.2.1
  have p8 := hCR.2.1.2.1
  refine ex_aload_n (pc := 688) dL_law_688 rfl ?_
  refine ex_aload_n (pc := 689) dL_law_689 rfl ?_
  refine ex_iload_n (pc := 690) dL_law_690 rfl ?_
  refine ex_iconst (pc := 691) (v := (nI 1)) dL_law_691 (by decide) ?_
  refine ex_iadd (pc := 692) dL_law_692 ?_
  refine ex_scr (pc := 693) dL_law_693 (by omega) hN ?_
  refine cx_VL1i (pc := 694) dL_law_694 lk_L_72 hC.1 rfl (Nat.le_of_ble_eq_true rfl) (Nat.le_of_ble_eq_true rfl) (by omega) (c_W_watched hC.1 hCR (by omega) _) (fun h_694 x_694 q_694 => ?_)
  obtain ⟨y1, y2⟩ := q_694
  have u1 : FrX (fun _ => False) g h h_694 := y1.fr
  have C1 := hC.fr u1 (fun _ z => z.elim)
  have R1 := hR.fr u1 (fun _ z => z.elim)
  refine ex_aload_n (pc := 697) dL_law_697 rfl ?_
  refine ex_aload_n (pc := 698) dL_law_698 rfl ?_
  refine ex_iload_n (pc := 699) dL_law_699 rfl ?_
  refine ex_iconst (pc := 700) (v := (nI 1)) dL_law_700 (by decide) ?_
  refine ex_iadd (pc := 701) dL_law_701 ?_
  refine ex_scr (pc := 702) dL_law_702 (by omega) hN ?_
  refine cx_VL1i (pc := 703) dL_law_703 lk_L_75 R1.1.1.1 rfl (Nat.le_of_ble_eq_true rfl) (Nat.le_of_ble_eq_true rfl) (by omega) (c_M_watched R1.1 (by omega) _) (fun h_703 x_703 q_703 => ?_)
  obtain ⟨y3, y4⟩ := q_703
  have u2 : FrX (fun _ => False) g h_694 h_703 := y3.fr
  have C2 := C1.fr u2 (fun _ z => z.elim)
  have R2 := R1.fr u2 (fun _ z => z.elim)
  refine bx_icmp_eq_t (pc := 706) (tgt := 1647) dL_law_706 (by decide) (by rw [y2, y4]) ?_
  exact K _ (IV.mk ((u2.1.trans u1.1).trans eJ) tB t96 C2 R2 hP)
set_option maxHeartbeats 4000000 in
set_option maxRecDepth 100000 in
theorem lc_spare {g : Gl} {d kc ks i nt nti tl j : Nat} {ik : Int32} {tf : Nat → Int32} {h : AH} {Q : AH → Option Value → Prop}  (hi : i + 6 ≤ sN g) (hN : sN g ≤ 3072) (hd : 80 ≤ d) (hI : IV g h nt ik nti tf tl j) (K : ∀ h', IV g h' nt ik nti tf tl j → Ex g mL_law d kc ks 1647 [some (.ref (sB g)), some (.ref (g.1 + 0)), some (.ref (g.1 + 75)), some (.int (nI i))] [] h' Q) : Ex g mL_law d kc ks 711 [some (.ref (sB g)), some (.ref (g.1 + 0)), some (.ref (g.1 + 75)), some (.int (nI i))] [] h Q := by
  have hI0 := hI
  obtain ⟨eJ, tB, t96, s, n, im, ni, S, L, wf, c, z, hC, hR, hP⟩ := hI
  have hCR := hC.2.1
  have p8 := hCR.2.1.2.1
  refine ex_aload_n (pc := 711) dL_law_711 rfl ?_
  refine ex_aload_n (pc := 712) dL_law_712 rfl ?_
  refine ex_iload_n (pc := 713) dL_law_713 rfl ?_
  refine ex_iconst (pc := 714) (v := (nI 1)) dL_law_714 (by decide) ?_
  refine ex_iadd (pc := 715) dL_law_715 ?_
  refine ex_scr (pc := 716) dL_law_716 (by omega) hN ?_
  refine cx_VL1i (pc := 717) dL_law_717 lk_L_76 hC.1 rfl (Nat.le_of_ble_eq_true rfl) (Nat.le_of_ble_eq_true rfl) (by omega) (c_W_spare hC.1 hCR (by omega) _) (fun h_717 x_717 q_717 => ?_)
  obtain ⟨y1, y2⟩ := q_717
  have u1 : FrX (fun _ => False) g h h_717 := y1.fr
  have C1 := hC.fr u1 (fun _ z => z.elim)
  have R1 := hR.fr u1 (fun _ z => z.elim)
  refine ex_aload_n (pc := 720) dL_law_720 rfl ?_
  refine ex_aload_n (pc := 721) dL_law_721 rfl ?_
  refine ex_iload_n (pc := 722) dL_law_722 rfl ?_
  refine ex_iconst (pc := 723) (v := (nI 1)) dL_law_723 (by decide) ?_
  refine ex_iadd (pc := 724) dL_law_724 ?_
  refine ex_scr (pc := 725) dL_law_725 (by omega) hN ?_
  refine cx_VL1i (pc := 726) dL_law_726 lk_L_79 R1.1.1.1 rfl (Nat.le_of_ble_eq_true rfl) (Nat.le_of_ble_eq_true rfl) (by omega) (c_M_spare R1.1 (by omega) _) (fun h_726 x_726 q_726 => ?_)
  obtain ⟨y3, y4⟩ := q_726
  have u2 : FrX (fun _ => False) g h_717 h_726 := y3.fr
  have C2 := C1.fr u2 (fun _ z => z.elim)
  have R2 := R1.fr u2 (fun _ z => z.elim)
  refine bx_icmp_eq_t (pc := 729) (tgt := 1647) dL_law_729 (by decide) (by rw [y2, y4]) ?_
  exact K _ (IV.mk ((u2.1.trans u1.1).trans eJ) tB t96 C2 R2 hP)
set_option maxHeartbeats 4000000 in
set_option maxRecDepth 100000 in
theorem lc_sneak {g : Gl} {d kc ks i nt nti tl j : Nat} {ik : Int32} {tf : Nat → Int32} {h : AH} {Q : AH → Option Value → Prop}  (hi : i + 6 ≤ sN g) (hN : sN g ≤ 3072) (hd : 80 ≤ d) (hI : IV g h nt ik nti tf tl j) (K : ∀ h', IV g h' nt ik nti tf tl j → Ex g mL_law d kc ks 1647 [some (.ref (sB g)), some (.ref (g.1 + 0)), some (.ref (g.1 + 75)), some (.int (nI i))] [] h' Q) : Ex g mL_law d kc ks 800 [some (.ref (sB g)), some (.ref (g.1 + 0)), some (.ref (g.1 + 75)), some (.int (nI i))] [] h Q := by
  have hI0 := hI
  obtain ⟨eJ, tB, t96, s, n, im, ni, S, L, wf, c, z, hC, hR, hP⟩ := hI
  have hCR := hC.2.1
  have p8 := hCR.2.1.2.1
  refine ex_aload_n (pc := 800) dL_law_800 rfl ?_
  refine ex_aload_n (pc := 801) dL_law_801 rfl ?_
  refine ex_iload_n (pc := 802) dL_law_802 rfl ?_
  refine ex_iconst (pc := 803) (v := (nI 1)) dL_law_803 (by decide) ?_
  refine ex_iadd (pc := 804) dL_law_804 ?_
  refine ex_scr (pc := 805) dL_law_805 (by omega) hN ?_
  refine ex_aload_n (pc := 806) dL_law_806 rfl ?_
  refine ex_iload_n (pc := 807) dL_law_807 rfl ?_
  refine ex_iconst (pc := 808) (v := (nI 2)) dL_law_808 (by decide) ?_
  refine ex_iadd (pc := 809) dL_law_809 ?_
  refine ex_scr (pc := 810) dL_law_810 (by omega) hN ?_
  refine cx_VL2i (pc := 811) dL_law_811 lk_L_88 hC.1 rfl (Nat.le_of_ble_eq_true rfl) (Nat.le_of_ble_eq_true rfl) (by omega) (c_W_sneak hC.1 hCR (by omega) _ _) (fun h_811 x_811 q_811 => ?_)
  obtain ⟨y1, y2⟩ := q_811
  have u1 : FrX (fun _ => False) g h h_811 := y1.fr
  have C1 := hC.fr u1 (fun _ z => z.elim)
  have R1 := hR.fr u1 (fun _ z => z.elim)
  refine ex_aload_n (pc := 814) dL_law_814 rfl ?_
  refine ex_aload_n (pc := 815) dL_law_815 rfl ?_
  refine ex_iload_n (pc := 816) dL_law_816 rfl ?_
  refine ex_iconst (pc := 817) (v := (nI 1)) dL_law_817 (by decide) ?_
  refine ex_iadd (pc := 818) dL_law_818 ?_
  refine ex_scr (pc := 819) dL_law_819 (by omega) hN ?_
  refine ex_aload_n (pc := 820) dL_law_820 rfl ?_
  refine ex_iload_n (pc := 821) dL_law_821 rfl ?_
  refine ex_iconst (pc := 822) (v := (nI 2)) dL_law_822 (by decide) ?_
  refine ex_iadd (pc := 823) dL_law_823 ?_
  refine ex_scr (pc := 824) dL_law_824 (by omega) hN ?_
  refine cx_VL2i (pc := 825) dL_law_825 lk_L_91 R1.1.1.1 rfl (Nat.le_of_ble_eq_true rfl) (Nat.le_of_ble_eq_true rfl) (by omega) (c_M_sneak R1.1 (by omega) _ _) (fun h_825 x_825 q_825 => ?_)
  obtain ⟨y3, y4⟩ := q_825
  have u2 : FrX (fun _ => False) g h_811 h_825 := y3.fr
  have C2 := C1.fr u2 (fun _ z => z.elim)
  have R2 := R1.fr u2 (fun _ z => z.elim)
  refine bx_icmp_eq_t (pc := 828) (tgt := 1647) dL_law_828 (by decide) (by rw [y2, y4]) ?_
  exact K _ (IV.mk ((u2.1.trans u1.1).trans eJ) tB t96 C2 R2 hP)
set_option maxHeartbeats 4000000 in
set_option maxRecDepth 100000 in
theorem lc_fee {g : Gl} {d kc ks i nt nti tl j : Nat} {ik : Int32} {tf : Nat → Int32} {h : AH} {Q : AH → Option Value → Prop}  (hi : i + 6 ≤ sN g) (hN : sN g ≤ 3072) (hd : 80 ≤ d) (hI : IV g h nt ik nti tf tl j) (K : ∀ h', IV g h' nt ik nti tf tl j → Ex g mL_law d kc ks 1647 [some (.ref (sB g)), some (.ref (g.1 + 0)), some (.ref (g.1 + 75)), some (.int (nI i))] [] h' Q) : Ex g mL_law d kc ks 1044 [some (.ref (sB g)), some (.ref (g.1 + 0)), some (.ref (g.1 + 75)), some (.int (nI i))] [] h Q := by
  have hI0 := hI
  obtain ⟨eJ, tB, t96, s, n, im, ni, S, L, wf, c, z, hC, hR, hP⟩ := hI
  have hCR := hC.2.1
  have p8 := hCR.2.1.2.1
  refine ex_aload_n (pc := 1044) dL_law_1044 rfl ?_
  refine cx_VL0i (pc := 1045) dL_law_1045 lk_L_121 hC.1 rfl (Nat.le_of_ble_eq_true rfl) (Nat.le_of_ble_eq_true rfl) (by omega) (c_W_fee hC.1 hCR (by omega)) (fun h_1045 x_1045 q_1045 => ?_)
  obtain ⟨y1, y2⟩ := q_1045
  have u1 : FrX (fun _ => False) g h h_1045 := y1.fr
  have C1 := hC.fr u1 (fun _ z => z.elim)
  have R1 := hR.fr u1 (fun _ z => z.elim)
  refine ex_aload_n (pc := 1048) dL_law_1048 rfl ?_
  refine cx_VL0i (pc := 1049) dL_law_1049 lk_L_124 R1.1.1.1 rfl (Nat.le_of_ble_eq_true rfl) (Nat.le_of_ble_eq_true rfl) (by omega) (c_M_fee R1.1 (by omega)) (fun h_1049 x_1049 q_1049 => ?_)
  obtain ⟨y3, y4⟩ := q_1049
  have u2 : FrX (fun _ => False) g h_1045 h_1049 := y3.fr
  have C2 := C1.fr u2 (fun _ z => z.elim)
  have R2 := R1.fr u2 (fun _ z => z.elim)
  refine bx_icmp_eq_t (pc := 1052) (tgt := 1647) dL_law_1052 (by decide) (by rw [y2, y4]) ?_
  exact K _ (IV.mk ((u2.1.trans u1.1).trans eJ) tB t96 C2 R2 hP)
set_option maxHeartbeats 4000000 in
set_option maxRecDepth 100000 in
theorem lc_fine {g : Gl} {d kc ks i nt nti tl j : Nat} {ik : Int32} {tf : Nat → Int32} {h : AH} {Q : AH → Option Value → Prop}  (hi : i + 6 ≤ sN g) (hN : sN g ≤ 3072) (hd : 80 ≤ d) (hI : IV g h nt ik nti tf tl j) (K : ∀ h', IV g h' nt ik nti tf tl j → Ex g mL_law d kc ks 1647 [some (.ref (sB g)), some (.ref (g.1 + 0)), some (.ref (g.1 + 75)), some (.int (nI i))] [] h' Q) : Ex g mL_law d kc ks 1057 [some (.ref (sB g)), some (.ref (g.1 + 0)), some (.ref (g.1 + 75)), some (.int (nI i))] [] h Q := by
  have hI0 := hI
  obtain ⟨eJ, tB, t96, s, n, im, ni, S, L, wf, c, z, hC, hR, hP⟩ := hI
  have hCR := hC.2.1
  have p8 := hCR.2.1.2.1
  refine ex_aload_n (pc := 1057) dL_law_1057 rfl ?_
  refine ex_aload_n (pc := 1058) dL_law_1058 rfl ?_
  refine ex_iload_n (pc := 1059) dL_law_1059 rfl ?_
  refine ex_iconst (pc := 1060) (v := (nI 1)) dL_law_1060 (by decide) ?_
  refine ex_iadd (pc := 1061) dL_law_1061 ?_
  refine ex_scr (pc := 1062) dL_law_1062 (by omega) hN ?_
  refine cx_VL1i (pc := 1063) dL_law_1063 lk_L_125 hC.1 rfl (Nat.le_of_ble_eq_true rfl) (Nat.le_of_ble_eq_true rfl) (by omega) (c_W_fine hC.1 hCR (by omega) _) (fun h_1063 x_1063 q_1063 => ?_)
  obtain ⟨y1, y2⟩ := q_1063
  have u1 : FrX (fun _ => False) g h h_1063 := y1.fr
  have C1 := hC.fr u1 (fun _ z => z.elim)
  have R1 := hR.fr u1 (fun _ z => z.elim)
  refine ex_aload_n (pc := 1066) dL_law_1066 rfl ?_
  refine ex_aload_n (pc := 1067) dL_law_1067 rfl ?_
  refine ex_iload_n (pc := 1068) dL_law_1068 rfl ?_
  refine ex_iconst (pc := 1069) (v := (nI 1)) dL_law_1069 (by decide) ?_
  refine ex_iadd (pc := 1070) dL_law_1070 ?_
  refine ex_scr (pc := 1071) dL_law_1071 (by omega) hN ?_
  refine cx_VL1i (pc := 1072) dL_law_1072 lk_L_128 R1.1.1.1 rfl (Nat.le_of_ble_eq_true rfl) (Nat.le_of_ble_eq_true rfl) (by omega) (c_M_fine R1.1 (by omega) _) (fun h_1072 x_1072 q_1072 => ?_)
  obtain ⟨y3, y4⟩ := q_1072
  have u2 : FrX (fun _ => False) g h_1063 h_1072 := y3.fr
  have C2 := C1.fr u2 (fun _ z => z.elim)
  have R2 := R1.fr u2 (fun _ z => z.elim)
  refine bx_icmp_eq_t (pc := 1075) (tgt := 1647) dL_law_1075 (by decide) (by rw [y2, y4]) ?_
  exact K _ (IV.mk ((u2.1.trans u1.1).trans eJ) tB t96 C2 R2 hP)
set_option maxHeartbeats 4000000 in
set_option maxRecDepth 100000 in
theorem lc_fewest {g : Gl} {d kc ks i nt nti tl j : Nat} {ik : Int32} {tf : Nat → Int32} {h : AH} {Q : AH → Option Value → Prop}  (hi : i + 6 ≤ sN g) (hN : sN g ≤ 3072) (hd : 80 ≤ d) (hI : IV g h nt ik nti tf tl j) (K : ∀ h', IV g h' nt ik nti tf tl j → Ex g mL_law d kc ks 1647 [some (.ref (sB g)), some (.ref (g.1 + 0)), some (.ref (g.1 + 75)), some (.int (nI i))] [] h' Q) : Ex g mL_law d kc ks 734 [some (.ref (sB g)), some (.ref (g.1 + 0)), some (.ref (g.1 + 75)), some (.int (nI i))] [] h Q := by
  have hI0 := hI
  obtain ⟨eJ, tB, t96, s, n, im, ni, S, L, wf, c, z, hC, hR, hP⟩ := hI
  have hCR := hC.2.1
  have p8 := hCR.2.1.2.1
  refine ex_aload_n (pc := 734) dL_law_734 rfl ?_
  refine ex_aload_n (pc := 735) dL_law_735 rfl ?_
  refine ex_iload_n (pc := 736) dL_law_736 rfl ?_
  refine ex_iconst (pc := 737) (v := (nI 1)) dL_law_737 (by decide) ?_
  refine ex_iadd (pc := 738) dL_law_738 ?_
  refine ex_scr (pc := 739) dL_law_739 (by omega) hN ?_
  refine cx_VL1i (pc := 740) dL_law_740 lk_L_80 hC.1 rfl (Nat.le_of_ble_eq_true rfl) (Nat.le_of_ble_eq_true rfl) (by omega) (c_W_fewest hC.1 hCR hC.2.2.2.1 (by omega) _) (fun h_740 x_740 q_740 => ?_)
  obtain ⟨⟨y0, u1⟩, y2⟩ := q_740
  have C1 := hC.th u1 y0
  have R1 := hR.fr u1 (fun k z => by unfold thX at z; omega)
  refine ex_aload_n (pc := 743) dL_law_743 rfl ?_
  refine ex_aload_n (pc := 744) dL_law_744 rfl ?_
  refine ex_iload_n (pc := 745) dL_law_745 rfl ?_
  refine ex_iconst (pc := 746) (v := (nI 1)) dL_law_746 (by decide) ?_
  refine ex_iadd (pc := 747) dL_law_747 ?_
  refine ex_scr (pc := 748) dL_law_748 (by omega) hN ?_
  refine cx_VL1i (pc := 749) dL_law_749 lk_L_83 R1.1.1.1 rfl (Nat.le_of_ble_eq_true rfl) (Nat.le_of_ble_eq_true rfl) (by omega) (c_M_fewest R1.1 R1.2.2.1 (by omega) _) (fun h_749 x_749 q_749 => ?_)
  obtain ⟨⟨y3, y5, u2⟩, y4⟩ := q_749
  have C2 := C1.fr u2 (fun k z => by unfold mtX at z; omega)
  have R2 := R1.th u2 y3 y5
  refine bx_icmp_eq_t (pc := 752) (tgt := 1647) dL_law_752 (by decide) (by rw [y2, y4]) ?_
  exact K _ (IV.mk ((u2.1.trans u1.1).trans eJ) tB t96 C2 R2 hP)
set_option maxHeartbeats 4000000 in
set_option maxRecDepth 100000 in
theorem lc_stand {g : Gl} {d kc ks i nt nti tl j : Nat} {ik : Int32} {tf : Nat → Int32} {h : AH} {Q : AH → Option Value → Prop}  (hi : i + 6 ≤ sN g) (hN : sN g ≤ 3072) (hd : 80 ≤ d) (hI : IV g h nt ik nti tf tl j) (K : ∀ h', IV g h' nt ik nti tf tl j → Ex g mL_law d kc ks 1647 [some (.ref (sB g)), some (.ref (g.1 + 0)), some (.ref (g.1 + 75)), some (.int (nI i))] [] h' Q) : Ex g mL_law d kc ks 757 [some (.ref (sB g)), some (.ref (g.1 + 0)), some (.ref (g.1 + 75)), some (.int (nI i))] [] h Q := by
  have hI0 := hI
  obtain ⟨eJ, tB, t96, s, n, im, ni, S, L, wf, c, z, hC, hR, hP⟩ := hI
  have hCR := hC.2.1
  have p8 := hCR.2.1.2.1
  refine ex_aload_n (pc := 757) dL_law_757 rfl ?_
  refine ex_aload_n (pc := 758) dL_law_758 rfl ?_
  refine ex_iload_n (pc := 759) dL_law_759 rfl ?_
  refine ex_iconst (pc := 760) (v := (nI 1)) dL_law_760 (by decide) ?_
  refine ex_iadd (pc := 761) dL_law_761 ?_
  refine ex_scr (pc := 762) dL_law_762 (by omega) hN ?_
  refine ex_aload_n (pc := 763) dL_law_763 rfl ?_
  refine ex_iload_n (pc := 764) dL_law_764 rfl ?_
  refine ex_iconst (pc := 765) (v := (nI 2)) dL_law_765 (by decide) ?_
  refine ex_iadd (pc := 766) dL_law_766 ?_
  refine ex_scr (pc := 767) dL_law_767 (by omega) hN ?_
  refine ex_aload_n (pc := 768) dL_law_768 rfl ?_
  refine ex_iload_n (pc := 769) dL_law_769 rfl ?_
  refine ex_iconst (pc := 770) (v := (nI 3)) dL_law_770 (by decide) ?_
  refine ex_iadd (pc := 771) dL_law_771 ?_
  refine ex_scr (pc := 772) dL_law_772 (by omega) hN ?_
  refine cx_VL3i (pc := 773) dL_law_773 lk_L_84 hC.1 rfl (Nat.le_of_ble_eq_true rfl) (Nat.le_of_ble_eq_true rfl) (by omega) (c_W_stand hC.1 hCR hC.2.2.2.1 (by omega) _ _ _) (fun h_773 x_773 q_773 => ?_)
  obtain ⟨⟨y0, u1⟩, y2⟩ := q_773
  have C1 := hC.th u1 y0
  have R1 := hR.fr u1 (fun k z => by unfold thX at z; omega)
  refine ex_aload_n (pc := 776) dL_law_776 rfl ?_
  refine ex_aload_n (pc := 777) dL_law_777 rfl ?_
  refine ex_iload_n (pc := 778) dL_law_778 rfl ?_
  refine ex_iconst (pc := 779) (v := (nI 1)) dL_law_779 (by decide) ?_
  refine ex_iadd (pc := 780) dL_law_780 ?_
  refine ex_scr (pc := 781) dL_law_781 (by omega) hN ?_
  refine ex_aload_n (pc := 782) dL_law_782 rfl ?_
  refine ex_iload_n (pc := 783) dL_law_783 rfl ?_
  refine ex_iconst (pc := 784) (v := (nI 2)) dL_law_784 (by decide) ?_
  refine ex_iadd (pc := 785) dL_law_785 ?_
  refine ex_scr (pc := 786) dL_law_786 (by omega) hN ?_
  refine ex_aload_n (pc := 787) dL_law_787 rfl ?_
  refine ex_iload_n (pc := 788) dL_law_788 rfl ?_
  refine ex_iconst (pc := 789) (v := (nI 3)) dL_law_789 (by decide) ?_
  refine ex_iadd (pc := 790) dL_law_790 ?_
  refine ex_scr (pc := 791) dL_law_791 (by omega) hN ?_
  refine cx_VL3i (pc := 792) dL_law_792 lk_L_87 R1.1.1.1 rfl (Nat.le_of_ble_eq_true rfl) (Nat.le_of_ble_eq_true rfl) (by omega) (c_M_stand R1.1 (by omega) _ _ _) (fun h_792 x_792 q_792 => ?_)
  obtain ⟨y3, y4⟩ := q_792
  have u2 : FrX (fun _ => False) g h_773 h_792 := y3.fr
  have C2 := C1.fr u2 (fun _ z => z.elim)
  have R2 := R1.fr u2 (fun _ z => z.elim)
  refine bx_icmp_eq_t (pc := 795) (tgt := 1647) dL_law_795 (by decide) (by rw [y2, y4]) ?_
  exact K _ (IV.mk ((u2.1.trans u1.1).trans eJ) tB t96 C2 R2 hP)
set_option maxHeartbeats 4000000 in
set_option maxRecDepth 100000 in
theorem lc_behind {g : Gl} {d kc ks i nt nti tl j : Nat} {ik : Int32} {tf : Nat → Int32} {h : AH} {Q : AH → Option Value → Prop}  (hi : i + 6 ≤ sN g) (hN : sN g ≤ 3072) (hd : 80 ≤ d) (hI : IV g h nt ik nti tf tl j) (K : ∀ h', IV g h' nt ik nti tf tl j → Ex g mL_law d kc ks 1647 [some (.ref (sB g)), some (.ref (g.1 + 0)), some (.ref (g.1 + 75)), some (.int (nI i))] [] h' Q) : Ex g mL_law d kc ks 879 [some (.ref (sB g)), some (.ref (g.1 + 0)), some (.ref (g.1 + 75)), some (.int (nI i))] [] h Q := by
  have hI0 := hI
  obtain ⟨eJ, tB, t96, s, n, im, ni, S, L, wf, c, z, hC, hR, hP⟩ := hI
  have hCR := hC.2.1
  have p8 := hCR.2.1.2.1
  refine ex_aload_n (pc := 879) dL_law_879 rfl ?_
  refine ex_aload_n (pc := 880) dL_law_880 rfl ?_
  refine ex_iload_n (pc := 881) dL_law_881 rfl ?_
  refine ex_iconst (pc := 882) (v := (nI 1)) dL_law_882 (by decide) ?_
  refine ex_iadd (pc := 883) dL_law_883 ?_
  refine ex_scr (pc := 884) dL_law_884 (by omega) hN ?_
  refine ex_aload_n (pc := 885) dL_law_885 rfl ?_
  refine ex_iload_n (pc := 886) dL_law_886 rfl ?_
  refine ex_iconst (pc := 887) (v := (nI 2)) dL_law_887 (by decide) ?_
  refine ex_iadd (pc := 888) dL_law_888 ?_
  refine ex_scr (pc := 889) dL_law_889 (by omega) hN ?_
  refine cx_VL2i (pc := 890) dL_law_890 lk_L_100 hC.1 rfl (Nat.le_of_ble_eq_true rfl) (Nat.le_of_ble_eq_true rfl) (by omega) (c_W_behind hC.1 hCR hC.2.2.2.1 (hP.1.ok hCR.2.1) (by omega) _ _) (fun h_890 x_890 q_890 => ?_)
  obtain ⟨⟨y0, u1⟩, y2⟩ := q_890
  have C1 := hC.th u1 y0
  have R1 := hR.fr u1 (fun k z => by unfold thX at z; omega)
  refine ex_aload_n (pc := 893) dL_law_893 rfl ?_
  refine ex_aload_n (pc := 894) dL_law_894 rfl ?_
  refine ex_iload_n (pc := 895) dL_law_895 rfl ?_
  refine ex_iconst (pc := 896) (v := (nI 1)) dL_law_896 (by decide) ?_
  refine ex_iadd (pc := 897) dL_law_897 ?_
  refine ex_scr (pc := 898) dL_law_898 (by omega) hN ?_
  refine ex_aload_n (pc := 899) dL_law_899 rfl ?_
  refine ex_iload_n (pc := 900) dL_law_900 rfl ?_
  refine ex_iconst (pc := 901) (v := (nI 2)) dL_law_901 (by decide) ?_
  refine ex_iadd (pc := 902) dL_law_902 ?_
  refine ex_scr (pc := 903) dL_law_903 (by omega) hN ?_
  refine cx_VL2i (pc := 904) dL_law_904 lk_L_103 R1.1.1.1 rfl (Nat.le_of_ble_eq_true rfl) (Nat.le_of_ble_eq_true rfl) (by omega) (c_M_behind R1.1 R1.2.2.1 (hP.1.ok hCR.2.1) (by omega) _ _) (fun h_904 x_904 q_904 => ?_)
  obtain ⟨⟨y3, y5, u2⟩, y4⟩ := q_904
  have C2 := C1.fr u2 (fun k z => by unfold mtX at z; omega)
  have R2 := R1.th u2 y3 y5
  refine bx_icmp_eq_t (pc := 907) (tgt := 1647) dL_law_907 (by decide) (by rw [y2, y4]) ?_
  exact K _ (IV.mk ((u2.1.trans u1.1).trans eJ) tB t96 C2 R2 hP)
set_option maxHeartbeats 4000000 in
set_option maxRecDepth 100000 in
theorem lc_catches {g : Gl} {d kc ks i nt nti tl j : Nat} {ik : Int32} {tf : Nat → Int32} {h : AH} {Q : AH → Option Value → Prop}  (hi : i + 6 ≤ sN g) (hN : sN g ≤ 3072) (hd : 80 ≤ d) (hI : IV g h nt ik nti tf tl j) (K : ∀ h', IV g h' nt ik nti tf tl j → Ex g mL_law d kc ks 1647 [some (.ref (sB g)), some (.ref (g.1 + 0)), some (.ref (g.1 + 75)), some (.int (nI i))] [] h' Q) : Ex g mL_law d kc ks 912 [some (.ref (sB g)), some (.ref (g.1 + 0)), some (.ref (g.1 + 75)), some (.int (nI i))] [] h Q := by
  have hI0 := hI
  obtain ⟨eJ, tB, t96, s, n, im, ni, S, L, wf, c, z, hC, hR, hP⟩ := hI
  have hCR := hC.2.1
  have p8 := hCR.2.1.2.1
  obtain ⟨-, -, -, hr, cc, g1, g2, g3, g4⟩ := hP.1
  refine ex_aload_n (pc := 912) dL_law_912 rfl ?_
  refine cx_VL0i (pc := 913) dL_law_913 lk_L_104 hC.1 rfl (Nat.le_of_ble_eq_true rfl) (Nat.le_of_ble_eq_true rfl) (by omega) (c_W_catches hC.1 hCR hC.2.2.2.1 (hP.1.ok hCR.2.1) (by omega)) (fun h_913 x_913 q_913 => ?_)
  obtain ⟨⟨y0, u1⟩, y2⟩ := q_913
  have C1 := hC.th u1 y0
  have R1 := hR.fr u1 (fun k z => by unfold thX at z; omega)
  refine ex_aload_n (pc := 916) dL_law_916 rfl ?_
  refine cx_VL0i (pc := 917) dL_law_917 lk_L_108 R1.1.1.1 rfl (Nat.le_of_ble_eq_true rfl) (Nat.le_of_ble_eq_true rfl) (by omega) (c_M_catches R1.1 R1.2.2.1 (hP.1.ok hCR.2.1) g4 (by omega) (by omega)) (fun h_917 x_917 q_917 => ?_)
  obtain ⟨⟨y3, y5, u2⟩, y4⟩ := q_917
  have C2 := C1.fr u2 (fun k z => by unfold mtX at z; omega)
  have R2 := R1.th u2 y3 y5
  refine bx_icmp_eq_t (pc := 920) (tgt := 1647) dL_law_920 (by decide) (by rw [y2, y4]) ?_
  exact K _ (IV.mk ((u2.1.trans u1.1).trans eJ) tB t96 C2 R2 hP)
set_option maxHeartbeats 4000000 in
set_option maxRecDepth 100000 in
theorem lc_faces {g : Gl} {d kc ks i nt nti tl j : Nat} {ik : Int32} {tf : Nat → Int32} {h : AH} {Q : AH → Option Value → Prop}  (hi : i + 6 ≤ sN g) (hN : sN g ≤ 3072) (hd : 80 ≤ d) (hI : IV g h nt ik nti tf tl j) (K : ∀ h', IV g h' nt ik nti tf tl j → Ex g mL_law d kc ks 1647 [some (.ref (sB g)), some (.ref (g.1 + 0)), some (.ref (g.1 + 75)), some (.int (nI i))] [] h' Q) : Ex g mL_law d kc ks 925 [some (.ref (sB g)), some (.ref (g.1 + 0)), some (.ref (g.1 + 75)), some (.int (nI i))] [] h Q := by
  have hI0 := hI
  obtain ⟨eJ, tB, t96, s, n, im, ni, S, L, wf, c, z, hC, hR, hP⟩ := hI
  have hCR := hC.2.1
  have p8 := hCR.2.1.2.1
  refine ex_aload_n (pc := 925) dL_law_925 rfl ?_
  refine ex_aload_n (pc := 926) dL_law_926 rfl ?_
  refine ex_iload_n (pc := 927) dL_law_927 rfl ?_
  refine ex_iconst (pc := 928) (v := (nI 1)) dL_law_928 (by decide) ?_
  refine ex_iadd (pc := 929) dL_law_929 ?_
  refine ex_scr (pc := 930) dL_law_930 (by omega) hN ?_
  refine ex_aload_n (pc := 931) dL_law_931 rfl ?_
  refine ex_iload_n (pc := 932) dL_law_932 rfl ?_
  refine ex_iconst (pc := 933) (v := (nI 2)) dL_law_933 (by decide) ?_
  refine ex_iadd (pc := 934) dL_law_934 ?_
  refine ex_scr (pc := 935) dL_law_935 (by omega) hN ?_
  refine ex_aload_n (pc := 936) dL_law_936 rfl ?_
  refine ex_iload_n (pc := 937) dL_law_937 rfl ?_
  refine ex_iconst (pc := 938) (v := (nI 3)) dL_law_938 (by decide) ?_
  refine ex_iadd (pc := 939) dL_law_939 ?_
  refine ex_scr (pc := 940) dL_law_940 (by omega) hN ?_
  refine cx_VL3i (pc := 941) dL_law_941 lk_L_109 hC.1 rfl (Nat.le_of_ble_eq_true rfl) (Nat.le_of_ble_eq_true rfl) (by omega) (c_W_faces hC.1 hCR hC.2.2.2.1 (hP.1.ok hCR.2.1) (by omega) _ _ _) (fun h_941 x_941 q_941 => ?_)
  obtain ⟨⟨y0, u1⟩, y2⟩ := q_941
  have C1 := hC.th u1 y0
  have R1 := hR.fr u1 (fun k z => by unfold thX at z; omega)
  refine ex_aload_n (pc := 944) dL_law_944 rfl ?_
  refine ex_aload_n (pc := 945) dL_law_945 rfl ?_
  refine ex_iload_n (pc := 946) dL_law_946 rfl ?_
  refine ex_iconst (pc := 947) (v := (nI 1)) dL_law_947 (by decide) ?_
  refine ex_iadd (pc := 948) dL_law_948 ?_
  refine ex_scr (pc := 949) dL_law_949 (by omega) hN ?_
  refine ex_aload_n (pc := 950) dL_law_950 rfl ?_
  refine ex_iload_n (pc := 951) dL_law_951 rfl ?_
  refine ex_iconst (pc := 952) (v := (nI 2)) dL_law_952 (by decide) ?_
  refine ex_iadd (pc := 953) dL_law_953 ?_
  refine ex_scr (pc := 954) dL_law_954 (by omega) hN ?_
  refine ex_aload_n (pc := 955) dL_law_955 rfl ?_
  refine ex_iload_n (pc := 956) dL_law_956 rfl ?_
  refine ex_iconst (pc := 957) (v := (nI 3)) dL_law_957 (by decide) ?_
  refine ex_iadd (pc := 958) dL_law_958 ?_
  refine ex_scr (pc := 959) dL_law_959 (by omega) hN ?_
  refine cx_VL3i (pc := 960) dL_law_960 lk_L_112 R1.1.1.1 rfl (Nat.le_of_ble_eq_true rfl) (Nat.le_of_ble_eq_true rfl) (by omega) (c_M_faces R1.1 R1.2.2.1 (hP.1.ok hCR.2.1) (by omega) _ _ _) (fun h_960 x_960 q_960 => ?_)
  obtain ⟨⟨y3, y5, u2⟩, y4⟩ := q_960
  have C2 := C1.fr u2 (fun k z => by unfold mtX at z; omega)
  have R2 := R1.th u2 y3 y5
  refine bx_icmp_eq_t (pc := 963) (tgt := 1647) dL_law_963 (by decide) (by rw [y2, y4]) ?_
  exact K _ (IV.mk ((u2.1.trans u1.1).trans eJ) tB t96 C2 R2 hP)
set_option maxHeartbeats 4000000 in
set_option maxRecDepth 100000 in
theorem lc_becomes {g : Gl} {d kc ks i nt nti tl j : Nat} {ik : Int32} {tf : Nat → Int32} {h : AH} {Q : AH → Option Value → Prop}  (hi : i + 6 ≤ sN g) (hN : sN g ≤ 3072) (hd : 80 ≤ d) (hI : IV g h nt ik nti tf tl j) (K : ∀ h', IV g h' nt ik nti tf tl j → Ex g mL_law d kc ks 1647 [some (.ref (sB g)), some (.ref (g.1 + 0)), some (.ref (g.1 + 75)), some (.int (nI i))] [] h' Q) : Ex g mL_law d kc ks 968 [some (.ref (sB g)), some (.ref (g.1 + 0)), some (.ref (g.1 + 75)), some (.int (nI i))] [] h Q := by
  have hI0 := hI
  obtain ⟨eJ, tB, t96, s, n, im, ni, S, L, wf, c, z, hC, hR, hP⟩ := hI
  have hCR := hC.2.1
  have p8 := hCR.2.1.2.1
  refine ex_aload_n (pc := 968) dL_law_968 rfl ?_
  refine ex_aload_n (pc := 969) dL_law_969 rfl ?_
  refine ex_iload_n (pc := 970) dL_law_970 rfl ?_
  refine ex_iconst (pc := 971) (v := (nI 1)) dL_law_971 (by decide) ?_
  refine ex_iadd (pc := 972) dL_law_972 ?_
  refine ex_scr (pc := 973) dL_law_973 (by omega) hN ?_
  refine ex_aload_n (pc := 974) dL_law_974 rfl ?_
  refine ex_iload_n (pc := 975) dL_law_975 rfl ?_
  refine ex_iconst (pc := 976) (v := (nI 2)) dL_law_976 (by decide) ?_
  refine ex_iadd (pc := 977) dL_law_977 ?_
  refine ex_scr (pc := 978) dL_law_978 (by omega) hN ?_
  refine ex_aload_n (pc := 979) dL_law_979 rfl ?_
  refine ex_iload_n (pc := 980) dL_law_980 rfl ?_
  refine ex_iconst (pc := 981) (v := (nI 3)) dL_law_981 (by decide) ?_
  refine ex_iadd (pc := 982) dL_law_982 ?_
  refine ex_scr (pc := 983) dL_law_983 (by omega) hN ?_
  refine cx_VL3i (pc := 984) dL_law_984 lk_L_113 hC.1 rfl (Nat.le_of_ble_eq_true rfl) (Nat.le_of_ble_eq_true rfl) (by omega) (c_W_becomes hC.1 hCR hC.2.2.2.1 (hP.1.ok hCR.2.1) (by omega) _ _ _) (fun h_984 x_984 q_984 => ?_)
  obtain ⟨⟨y0, u1⟩, y2⟩ := q_984
  have C1 := hC.th u1 y0
  have R1 := hR.fr u1 (fun k z => by unfold thX at z; omega)
  refine ex_aload_n (pc := 987) dL_law_987 rfl ?_
  refine ex_aload_n (pc := 988) dL_law_988 rfl ?_
  refine ex_iload_n (pc := 989) dL_law_989 rfl ?_
  refine ex_iconst (pc := 990) (v := (nI 1)) dL_law_990 (by decide) ?_
  refine ex_iadd (pc := 991) dL_law_991 ?_
  refine ex_scr (pc := 992) dL_law_992 (by omega) hN ?_
  refine ex_aload_n (pc := 993) dL_law_993 rfl ?_
  refine ex_iload_n (pc := 994) dL_law_994 rfl ?_
  refine ex_iconst (pc := 995) (v := (nI 2)) dL_law_995 (by decide) ?_
  refine ex_iadd (pc := 996) dL_law_996 ?_
  refine ex_scr (pc := 997) dL_law_997 (by omega) hN ?_
  refine ex_aload_n (pc := 998) dL_law_998 rfl ?_
  refine ex_iload_n (pc := 999) dL_law_999 rfl ?_
  refine ex_iconst (pc := 1000) (v := (nI 3)) dL_law_1000 (by decide) ?_
  refine ex_iadd (pc := 1001) dL_law_1001 ?_
  refine ex_scr (pc := 1002) dL_law_1002 (by omega) hN ?_
  refine cx_VL3i (pc := 1003) dL_law_1003 lk_L_116 R1.1.1.1 rfl (Nat.le_of_ble_eq_true rfl) (Nat.le_of_ble_eq_true rfl) (by omega) (c_M_becomes R1.1 R1.2.2.1 (hP.1.ok hCR.2.1) (by omega) _ _ _) (fun h_1003 x_1003 q_1003 => ?_)
  obtain ⟨⟨y3, y5, u2⟩, y4⟩ := q_1003
  have C2 := C1.fr u2 (fun k z => by unfold mtX at z; omega)
  have R2 := R1.th u2 y3 y5
  refine bx_icmp_eq_t (pc := 1006) (tgt := 1647) dL_law_1006 (by decide) (by rw [y2, y4]) ?_
  exact K _ (IV.mk ((u2.1.trans u1.1).trans eJ) tB t96 C2 R2 hP)
set_option maxHeartbeats 4000000 in
set_option maxRecDepth 100000 in
theorem lc_like {g : Gl} {d kc ks i nt nti tl j : Nat} {ik : Int32} {tf : Nat → Int32} {h : AH} {Q : AH → Option Value → Prop}  (hi : i + 6 ≤ sN g) (hN : sN g ≤ 3072) (hd : 80 ≤ d) (hI : IV g h nt ik nti tf tl j) (K : ∀ h', IV g h' nt ik nti tf tl j → Ex g mL_law d kc ks 1647 [some (.ref (sB g)), some (.ref (g.1 + 0)), some (.ref (g.1 + 75)), some (.int (nI i))] [] h' Q) : Ex g mL_law d kc ks 1011 [some (.ref (sB g)), some (.ref (g.1 + 0)), some (.ref (g.1 + 75)), some (.int (nI i))] [] h Q := by
  have hI0 := hI
  obtain ⟨eJ, tB, t96, s, n, im, ni, S, L, wf, c, z, hC, hR, hP⟩ := hI
  have hCR := hC.2.1
  have p8 := hCR.2.1.2.1
  refine ex_aload_n (pc := 1011) dL_law_1011 rfl ?_
  refine ex_aload_n (pc := 1012) dL_law_1012 rfl ?_
  refine ex_iload_n (pc := 1013) dL_law_1013 rfl ?_
  refine ex_iconst (pc := 1014) (v := (nI 1)) dL_law_1014 (by decide) ?_
  refine ex_iadd (pc := 1015) dL_law_1015 ?_
  refine ex_scr (pc := 1016) dL_law_1016 (by omega) hN ?_
  refine ex_aload_n (pc := 1017) dL_law_1017 rfl ?_
  refine ex_iload_n (pc := 1018) dL_law_1018 rfl ?_
  refine ex_iconst (pc := 1019) (v := (nI 2)) dL_law_1019 (by decide) ?_
  refine ex_iadd (pc := 1020) dL_law_1020 ?_
  refine ex_scr (pc := 1021) dL_law_1021 (by omega) hN ?_
  refine cx_VL2i (pc := 1022) dL_law_1022 lk_L_117 hC.1 rfl (Nat.le_of_ble_eq_true rfl) (Nat.le_of_ble_eq_true rfl) (by omega) (c_W_like hC.1 hCR hC.2.2.2.2.2.1 hP.2.2.2.1 hC.2.2.2.1 (hP.1.ok hCR.2.1) hP.1.2.1 (by omega) _ _) (fun h_1022 x_1022 q_1022 => ?_)
  obtain ⟨⟨y0, u1⟩, y2⟩ := q_1022
  have C1 := hC.th u1 y0
  have R1 := hR.fr u1 (fun k z => by unfold thX at z; omega)
  refine ex_aload_n (pc := 1025) dL_law_1025 rfl ?_
  refine ex_aload_n (pc := 1026) dL_law_1026 rfl ?_
  refine ex_iload_n (pc := 1027) dL_law_1027 rfl ?_
  refine ex_iconst (pc := 1028) (v := (nI 1)) dL_law_1028 (by decide) ?_
  refine ex_iadd (pc := 1029) dL_law_1029 ?_
  refine ex_scr (pc := 1030) dL_law_1030 (by omega) hN ?_
  refine ex_aload_n (pc := 1031) dL_law_1031 rfl ?_
  refine ex_iload_n (pc := 1032) dL_law_1032 rfl ?_
  refine ex_iconst (pc := 1033) (v := (nI 2)) dL_law_1033 (by decide) ?_
  refine ex_iadd (pc := 1034) dL_law_1034 ?_
  refine ex_scr (pc := 1035) dL_law_1035 (by omega) hN ?_
  refine cx_VL2i (pc := 1036) dL_law_1036 lk_L_120 R1.1.1.1 rfl (Nat.le_of_ble_eq_true rfl) (Nat.le_of_ble_eq_true rfl) (by omega) (c_M_like R1.1 R1.2.2.2.2.1 hP.2.2.2.1 R1.2.2.1 (hP.1.ok hCR.2.1) (by omega) _ _) (fun h_1036 x_1036 q_1036 => ?_)
  obtain ⟨⟨y3, y5, u2⟩, y4⟩ := q_1036
  have C2 := C1.fr u2 (fun k z => by unfold mtX at z; omega)
  have R2 := R1.th u2 y3 y5
  refine bx_icmp_eq_t (pc := 1039) (tgt := 1647) dL_law_1039 (by decide) (by rw [y2, y4]) ?_
  exact K _ (IV.mk ((u2.1.trans u1.1).trans eJ) tB t96 C2 R2 hP)

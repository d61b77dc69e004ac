set_option maxHeartbeats 1000000 in
set_option maxRecDepth 100000 in
theorem lc_slope {p : Program} {l : Launch} {e : Env} {s : State} {m : MethodId} {below : List Frame} {meth : Method} {c : Code} {b L : Nat} {xs : Nat → Int32} {G : va_G} {cI cL : ClassId} {A : Nat → Prop} {Q : State → Prop} {qx qm qm1 qm2 qm3 qm4 qm5 qh qh1 qh2 qt qt1 qy qy1 qy2 qy3 qy4 qy5 qy6 qy7 : Nat} (C : LC p s m c b L xs G cI cL) (hA : ∀ q : Nat, s.heap.size ≤ q → A q) (hbA : ¬ A b) {v3 : Int32} (hv : 0 ≤ v3.toInt ∧ v3.toInt + 5 ≤ L) {ls : Array Slot} {H : Heap} {locs : List Loc} (hI : Lq G cI cL A s b qx qm qm1 qm2 qm3 qm4 qm5 qh qh1 qh2 qt qt1 qy qy1 qy2 qy3 qy4 qy5 qy6 qy7 v3 ls H locs) (KK : ∀ (ls : Array Slot) (H : Heap) (locs : List Loc), Lq G cI cL A s b qx qm qm1 qm2 qm3 qm4 qm5 qh qh1 qh2 qt qt1 qy qy1 qy2 qy3 qy4 qy5 qy6 qy7 v3 ls H locs → W p l e room_1 s m #[Value.ref b] below meth c H locs 20 545 Q (F0 m 721 ls [])) : W p l e room_1 s m #[Value.ref b] below meth c H locs 20 545 Q (F0 m 149 ls []) := by
  obtain ⟨hx, hb, hml, hown, hts, hX, hbl, hK, hN, hL⟩ := C
  obtain ⟨zm, kt, ks, kf, kl, ku, zh, gt, gu, zt, kp, zM, Mt, Ms, Mf, Ml, zH, Ht, Hu, zT, Tp, bg, nm, nh, nt, hP, hD, hS, hl, hnm, hOm, hSr, hU, hnh, hOh, hnt, hOt, hnM, hOM, hsm, hnH, eH1, eH2, hnT, eT⟩ := hI
  have hOH : okH nh Ht Hu := by rw [eH1, eH2]; exact hOh
  have hOT : okT nt Tp := by rw [eT]; exact hOt
  have eP := pace_same hOm hOM hsm
  have hrv := ti_rng v3
  refine lv_aload_n hx hb dL_law_149 rfl (lv_at hl 1 rfl) ?_
  refine lv_aload_n hx hb dL_law_150 rfl (lv_at hl 0 rfl) ?_
  refine lv_iload_n hx hb dL_law_151 rfl (lv_at hl 3 rfl) ?_
  refine lv_iconst (v := 1) hx hb dL_law_152 (by decide) ?_
  refine lv_iadd hx hb dL_law_153 ?_
  refine lv_topi (fun x153 ex153 => ?_)
  have tx153 : x153.toInt = v3.toInt + 1 := by rw [ex153]; exact ti_add rfl (show ((1 : Int32)).toInt = 1 by decide) (by omega) (by omega)
  refine va_sld hx hb hX hbl hbA hS (vi_in rfl (by omega) (by omega)) dL_law_154 ?_
  refine lv_topi (fun x154 ex154 => ?_)
  refine lv_aload_n hx hb dL_law_155 rfl (lv_at hl 0 rfl) ?_
  refine lv_iload_n hx hb dL_law_156 rfl (lv_at hl 3 rfl) ?_
  refine lv_iconst (v := 2) hx hb dL_law_157 (by decide) ?_
  refine lv_iadd hx hb dL_law_158 ?_
  refine lv_topi (fun x158 ex158 => ?_)
  have tx158 : x158.toInt = v3.toInt + 2 := by rw [ex158]; exact ti_add rfl (show ((2 : Int32)).toInt = 2 by decide) (by omega) (by omega)
  refine va_sld hx hb hX hbl hbA hS (vi_in rfl (by omega) (by omega)) dL_law_159 ?_
  refine lv_topi (fun x159 ex159 => ?_)
  refine lv_aload_n hx hb dL_law_160 rfl (lv_at hl 0 rfl) ?_
  refine lv_iload_n hx hb dL_law_161 rfl (lv_at hl 3 rfl) ?_
  refine lv_iconst (v := 3) hx hb dL_law_162 (by decide) ?_
  refine lv_iadd hx hb dL_law_163 ?_
  refine lv_topi (fun x163 ex163 => ?_)
  have tx163 : x163.toInt = v3.toInt + 3 := by rw [ex163]; exact ti_add rfl (show ((3 : Int32)).toInt = 3 by decide) (by omega) (by omega)
  refine va_sld hx hb hX hbl hbA hS (vi_in rfl (by omega) (by omega)) dL_law_164 ?_
  refine lv_topi (fun x164 ex164 => ?_)
  refine lv_aload_n hx hb dL_law_165 rfl (lv_at hl 0 rfl) ?_
  refine lv_iload_n hx hb dL_law_166 rfl (lv_at hl 3 rfl) ?_
  refine lv_iconst (v := 4) hx hb dL_law_167 (by decide) ?_
  refine lv_iadd hx hb dL_law_168 ?_
  refine lv_topi (fun x168 ex168 => ?_)
  have tx168 : x168.toInt = v3.toInt + 4 := by rw [ex168]; exact ti_add rfl (show ((4 : Int32)).toInt = 4 by decide) (by omega) (by omega)
  refine va_sld hx hb hX hbl hbA hS (vi_in rfl (by omega) (by omega)) dL_law_169 ?_
  refine lv_topi (fun x169 ex169 => ?_)
  have hPc := hP.sub (ws' := [(qx, .inr (3, [.ref qm, .ref qh, .ref qt])), (qm, .inr (1, [.ref qm1, .ref qm2, .ref qm3, .ref qm4, .ref qm5, .int zm])), (qm1, .inl (cI, 40, .inl kt)), (qm2, .inl (cI, 40, .inl ks)), (qm3, .inl (cI, 40, .inl kf)), (qm4, .inl (cI, 40, .inl kl)), (qm5, .inl (cL, 40, .inr (.inl ku))), (qh, .inr (0, [.ref qh1, .ref qh2, .int zh])), (qh1, .inl (cI, 20, .inl gt)), (qh2, .inl (cI, 20, .inl gu)), (qt, .inr (2, [.ref qt1, .int zt])), (qt1, .inl (cL, 40, .inr (.inl kp)))]) [0, 1, 2, 3, 4, 5, 6, 7, 8, 9, 10, 11] rfl
  have hDc := hD.sub (ws' := [(qx, .inr (3, [.ref qm, .ref qh, .ref qt])), (qm, .inr (1, [.ref qm1, .ref qm2, .ref qm3, .ref qm4, .ref qm5, .int zm])), (qm1, .inl (cI, 40, .inl kt)), (qm2, .inl (cI, 40, .inl ks)), (qm3, .inl (cI, 40, .inl kf)), (qm4, .inl (cI, 40, .inl kl)), (qm5, .inl (cL, 40, .inr (.inl ku))), (qh, .inr (0, [.ref qh1, .ref qh2, .int zh])), (qh1, .inl (cI, 20, .inl gt)), (qh2, .inl (cI, 20, .inl gu)), (qt, .inr (2, [.ref qt1, .int zt])), (qt1, .inl (cL, 40, .inr (.inl kp)))]) [0, 1, 2, 3, 4, 5, 6, 7, 8, 9, 10, 11] (by decide) rfl
  have hcc := (ct_X3_slope l G cI cL H.size qx qm qm1 qm2 qm3 qm4 qm5 zm kt ks kf kl ku qh qh1 qh2 zh gt gu qt qt1 zt kp x154 x159 x164 x169 nm hnm hOm hSr hU nh hnh hOh nt hnt hOt)
  refine rw_calli (wr := [(qy, .inr (4, [.ref qy1, .ref qy2, .ref qy3, .ref qy4, .int zM, .ref qy5, .ref qy6, .int zH, .ref qy7, .int zT, .long bg])), (qy1, .inl (cI, 40, .inl Mt)), (qy2, .inl (cI, 40, .inl Ms)), (qy3, .inl (cI, 40, .inl Mf)), (qy4, .inl (cI, 40, .inl Ml)), (qy5, .inl (cI, 20, .inl Ht)), (qy6, .inl (cI, 20, .inl Hu)), (qy7, .inl (cL, 40, .inr (.inl Tp)))]) (va_runV (As := [.int x154, .int x159, .int x164, .int x169]) (rest := []) ⟨hx, hb, hml, hown, hts⟩ hcc (cwV 4 hts gL_law_X3_slope rfl rfl rfl (by decide +kernel) ⟨Nat.le_of_ble_eq_true rfl, Nat.le_of_ble_eq_true rfl⟩) ⟨pre_blind, va_recv hK hPc (ci := 3) (q0 := 0) rfl rfl, pre_pass hK hN hPc hDc⟩ rfl rfl hl.1 rfl (lv_room (Nat.le_of_ble_eq_true rfl)) dL_law_170 ⟨Nat.le_of_ble_eq_true rfl, Nat.le_of_ble_eq_true rfl⟩) hP hD hS hA [0, 1, 2, 3, 4, 5, 6, 7, 8, 9, 10, 11] [12, 13, 14, 15, 16, 17, 18, 19] rfl rfl (by decide) (by decide) (fun r170 u170 H locs hw170 hP hD hS => ?_)
  obtain ⟨zm170, kt170, ks170, kf170, kl170, ku170⟩ := u170
  have hP : va_P G vwCl [(qx, .inr (3, [.ref qm, .ref qh, .ref qt])), (qm, .inr (1, [.ref qm1, .ref qm2, .ref qm3, .ref qm4, .ref qm5, .int zm170])), (qm1, .inl (cI, 40, .inl kt170)), (qm2, .inl (cI, 40, .inl ks170)), (qm3, .inl (cI, 40, .inl kf170)), (qm4, .inl (cI, 40, .inl kl170)), (qm5, .inl (cL, 40, .inr (.inl ku170))), (qh, .inr (0, [.ref qh1, .ref qh2, .int zh])), (qh1, .inl (cI, 20, .inl gt)), (qh2, .inl (cI, 20, .inl gu)), (qt, .inr (2, [.ref qt1, .int zt])), (qt1, .inl (cL, 40, .inr (.inl kp))), (qy, .inr (4, [.ref qy1, .ref qy2, .ref qy3, .ref qy4, .int zM, .ref qy5, .ref qy6, .int zH, .ref qy7, .int zT, .long bg])), (qy1, .inl (cI, 40, .inl Mt)), (qy2, .inl (cI, 40, .inl Ms)), (qy3, .inl (cI, 40, .inl Mf)), (qy4, .inl (cI, 40, .inl Ml)), (qy5, .inl (cI, 20, .inl Ht)), (qy6, .inl (cI, 20, .inl Hu)), (qy7, .inl (cL, 40, .inr (.inl Tp)))] H := hP.sub [8, 9, 10, 11, 12, 13, 14, 15, 16, 17, 18, 19, 0, 1, 2, 3, 4, 5, 6, 7] rfl
  have hD : va_D A [(qx, .inr (3, [.ref qm, .ref qh, .ref qt])), (qm, .inr (1, [.ref qm1, .ref qm2, .ref qm3, .ref qm4, .ref qm5, .int zm170])), (qm1, .inl (cI, 40, .inl kt170)), (qm2, .inl (cI, 40, .inl ks170)), (qm3, .inl (cI, 40, .inl kf170)), (qm4, .inl (cI, 40, .inl kl170)), (qm5, .inl (cL, 40, .inr (.inl ku170))), (qh, .inr (0, [.ref qh1, .ref qh2, .int zh])), (qh1, .inl (cI, 20, .inl gt)), (qh2, .inl (cI, 20, .inl gu)), (qt, .inr (2, [.ref qt1, .int zt])), (qt1, .inl (cL, 40, .inr (.inl kp))), (qy, .inr (4, [.ref qy1, .ref qy2, .ref qy3, .ref qy4, .int zM, .ref qy5, .ref qy6, .int zH, .ref qy7, .int zT, .long bg])), (qy1, .inl (cI, 40, .inl Mt)), (qy2, .inl (cI, 40, .inl Ms)), (qy3, .inl (cI, 40, .inl Mf)), (qy4, .inl (cI, 40, .inl Ml)), (qy5, .inl (cI, 20, .inl Ht)), (qy6, .inl (cI, 20, .inl Hu)), (qy7, .inl (cL, 40, .inr (.inl Tp)))] := hD.sub [8, 9, 10, 11, 12, 13, 14, 15, 16, 17, 18, 19, 0, 1, 2, 3, 4, 5, 6, 7] (by decide) rfl
  try dsimp only at hw170
  obtain ⟨n1, a1, b1, c1, d1, e1⟩ := hw170
  refine lv_aload_n hx hb dL_law_173 rfl (lv_at hl 2 rfl) ?_
  refine lv_aload_n hx hb dL_law_174 rfl (lv_at hl 0 rfl) ?_
  refine lv_iload_n hx hb dL_law_175 rfl (lv_at hl 3 rfl) ?_
  refine lv_iconst (v := 1) hx hb dL_law_176 (by decide) ?_
  refine lv_iadd hx hb dL_law_177 ?_
  refine lv_topi (fun x177 ex177 => ?_)
  have tx177 : x177.toInt = v3.toInt + 1 := by rw [ex177]; exact ti_add rfl (show ((1 : Int32)).toInt = 1 by decide) (by omega) (by omega)
  refine va_sld hx hb hX hbl hbA hS (vi_in rfl (by omega) (by omega)) dL_law_178 ?_
  refine lv_topi (fun x178 ex178 => ?_)
  obtain rfl : x154 = x178 := by rw [ex154, ex178, i_ext (x := x177) (y := x153) (by omega)]
  refine lv_aload_n hx hb dL_law_179 rfl (lv_at hl 0 rfl) ?_
  refine lv_iload_n hx hb dL_law_180 rfl (lv_at hl 3 rfl) ?_
  refine lv_iconst (v := 2) hx hb dL_law_181 (by decide) ?_
  refine lv_iadd hx hb dL_law_182 ?_
  refine lv_topi (fun x182 ex182 => ?_)
  have tx182 : x182.toInt = v3.toInt + 2 := by rw [ex182]; exact ti_add rfl (show ((2 : Int32)).toInt = 2 by decide) (by omega) (by omega)
  refine va_sld hx hb hX hbl hbA hS (vi_in rfl (by omega) (by omega)) dL_law_183 ?_
  refine lv_topi (fun x183 ex183 => ?_)
  obtain rfl : x159 = x183 := by rw [ex159, ex183, i_ext (x := x182) (y := x158) (by omega)]
  refine lv_aload_n hx hb dL_law_184 rfl (lv_at hl 0 rfl) ?_
  refine lv_iload_n hx hb dL_law_185 rfl (lv_at hl 3 rfl) ?_
  refine lv_iconst (v := 3) hx hb dL_law_186 (by decide) ?_
  refine lv_iadd hx hb dL_law_187 ?_
  refine lv_topi (fun x187 ex187 => ?_)
  have tx187 : x187.toInt = v3.toInt + 3 := by rw [ex187]; exact ti_add rfl (show ((3 : Int32)).toInt = 3 by decide) (by omega) (by omega)
  refine va_sld hx hb hX hbl hbA hS (vi_in rfl (by omega) (by omega)) dL_law_188 ?_
  refine lv_topi (fun x188 ex188 => ?_)
  obtain rfl : x164 = x188 := by rw [ex164, ex188, i_ext (x := x187) (y := x163) (by omega)]
  refine lv_aload_n hx hb dL_law_189 rfl (lv_at hl 0 rfl) ?_
  refine lv_iload_n hx hb dL_law_190 rfl (lv_at hl 3 rfl) ?_
  refine lv_iconst (v := 4) hx hb dL_law_191 (by decide) ?_
  refine lv_iadd hx hb dL_law_192 ?_
  refine lv_topi (fun x192 ex192 => ?_)
  have tx192 : x192.toInt = v3.toInt + 4 := by rw [ex192]; exact ti_add rfl (show ((4 : Int32)).toInt = 4 by decide) (by omega) (by omega)
  refine va_sld hx hb hX hbl hbA hS (vi_in rfl (by omega) (by omega)) dL_law_193 ?_
  refine lv_topi (fun x193 ex193 => ?_)
  obtain rfl : x169 = x193 := by rw [ex169, ex193, i_ext (x := x192) (y := x168) (by omega)]
  have hPc := hP.sub (ws' := [(qy, .inr (4, [.ref qy1, .ref qy2, .ref qy3, .ref qy4, .int zM, .ref qy5, .ref qy6, .int zH, .ref qy7, .int zT, .long bg])), (qy1, .inl (cI, 40, .inl Mt)), (qy2, .inl (cI, 40, .inl Ms)), (qy3, .inl (cI, 40, .inl Mf)), (qy4, .inl (cI, 40, .inl Ml)), (qy5, .inl (cI, 20, .inl Ht)), (qy6, .inl (cI, 20, .inl Hu)), (qy7, .inl (cL, 40, .inr (.inl Tp)))]) [12, 13, 14, 15, 16, 17, 18, 19] rfl
  have hDc := hD.sub (ws' := [(qy, .inr (4, [.ref qy1, .ref qy2, .ref qy3, .ref qy4, .int zM, .ref qy5, .ref qy6, .int zH, .ref qy7, .int zT, .long bg])), (qy1, .inl (cI, 40, .inl Mt)), (qy2, .inl (cI, 40, .inl Ms)), (qy3, .inl (cI, 40, .inl Mf)), (qy4, .inl (cI, 40, .inl Ml)), (qy5, .inl (cI, 20, .inl Ht)), (qy6, .inl (cI, 20, .inl Hu)), (qy7, .inl (cL, 40, .inr (.inl Tp)))]) [12, 13, 14, 15, 16, 17, 18, 19] (by decide) rfl
  have hcc := (ct_X4_slope l G cI cL H.size qy qy1 qy2 qy3 qy4 qy5 qy6 qy7 zM zH zT bg Mt Ms Mf Ml Ht Hu Tp x154 x159 x164 x169 nm hnM hOM nh hnH hOH nt hnT hOT)
  refine rw_calli (wr := [(qx, .inr (3, [.ref qm, .ref qh, .ref qt])), (qm, .inr (1, [.ref qm1, .ref qm2, .ref qm3, .ref qm4, .ref qm5, .int zm170])), (qm1, .inl (cI, 40, .inl kt170)), (qm2, .inl (cI, 40, .inl ks170)), (qm3, .inl (cI, 40, .inl kf170)), (qm4, .inl (cI, 40, .inl kl170)), (qm5, .inl (cL, 40, .inr (.inl ku170))), (qh, .inr (0, [.ref qh1, .ref qh2, .int zh])), (qh1, .inl (cI, 20, .inl gt)), (qh2, .inl (cI, 20, .inl gu)), (qt, .inr (2, [.ref qt1, .int zt])), (qt1, .inl (cL, 40, .inr (.inl kp)))]) (va_runV (As := [.int x154, .int x159, .int x164, .int x169]) (rest := [.int r170]) ⟨hx, hb, hml, hown, hts⟩ hcc (cwV 4 hts gL_law_X4_slope rfl rfl rfl (by decide +kernel) ⟨Nat.le_of_ble_eq_true rfl, Nat.le_of_ble_eq_true rfl⟩) ⟨pre_blind, va_recv hK hPc (ci := 4) (q0 := 0) rfl rfl, pre_pass hK hN hPc hDc⟩ rfl rfl hl.1 rfl (lv_room (Nat.le_of_ble_eq_true rfl)) dL_law_194 ⟨Nat.le_of_ble_eq_true rfl, Nat.le_of_ble_eq_true rfl⟩) hP hD hS hA [12, 13, 14, 15, 16, 17, 18, 19] [0, 1, 2, 3, 4, 5, 6, 7, 8, 9, 10, 11] rfl rfl (by decide) (by decide) (fun r194 u194 H locs hw194 hP hD hS => ?_)
  obtain ⟨zM194, Mt194, Ms194, Mf194, Ml194⟩ := u194
  have hP : va_P G vwCl [(qx, .inr (3, [.ref qm, .ref qh, .ref qt])), (qm, .inr (1, [.ref qm1, .ref qm2, .ref qm3, .ref qm4, .ref qm5, .int zm170])), (qm1, .inl (cI, 40, .inl kt170)), (qm2, .inl (cI, 40, .inl ks170)), (qm3, .inl (cI, 40, .inl kf170)), (qm4, .inl (cI, 40, .inl kl170)), (qm5, .inl (cL, 40, .inr (.inl ku170))), (qh, .inr (0, [.ref qh1, .ref qh2, .int zh])), (qh1, .inl (cI, 20, .inl gt)), (qh2, .inl (cI, 20, .inl gu)), (qt, .inr (2, [.ref qt1, .int zt])), (qt1, .inl (cL, 40, .inr (.inl kp))), (qy, .inr (4, [.ref qy1, .ref qy2, .ref qy3, .ref qy4, .int zM194, .ref qy5, .ref qy6, .int zH, .ref qy7, .int zT, .long bg])), (qy1, .inl (cI, 40, .inl Mt194)), (qy2, .inl (cI, 40, .inl Ms194)), (qy3, .inl (cI, 40, .inl Mf194)), (qy4, .inl (cI, 40, .inl Ml194)), (qy5, .inl (cI, 20, .inl Ht)), (qy6, .inl (cI, 20, .inl Hu)), (qy7, .inl (cL, 40, .inr (.inl Tp)))] H := hP.sub [0, 1, 2, 3, 4, 5, 6, 7, 8, 9, 10, 11, 12, 13, 14, 15, 16, 17, 18, 19] rfl
  have hD : va_D A [(qx, .inr (3, [.ref qm, .ref qh, .ref qt])), (qm, .inr (1, [.ref qm1, .ref qm2, .ref qm3, .ref qm4, .ref qm5, .int zm170])), (qm1, .inl (cI, 40, .inl kt170)), (qm2, .inl (cI, 40, .inl ks170)), (qm3, .inl (cI, 40, .inl kf170)), (qm4, .inl (cI, 40, .inl kl170)), (qm5, .inl (cL, 40, .inr (.inl ku170))), (qh, .inr (0, [.ref qh1, .ref qh2, .int zh])), (qh1, .inl (cI, 20, .inl gt)), (qh2, .inl (cI, 20, .inl gu)), (qt, .inr (2, [.ref qt1, .int zt])), (qt1, .inl (cL, 40, .inr (.inl kp))), (qy, .inr (4, [.ref qy1, .ref qy2, .ref qy3, .ref qy4, .int zM194, .ref qy5, .ref qy6, .int zH, .ref qy7, .int zT, .long bg])), (qy1, .inl (cI, 40, .inl Mt194)), (qy2, .inl (cI, 40, .inl Ms194)), (qy3, .inl (cI, 40, .inl Mf194)), (qy4, .inl (cI, 40, .inl Ml194)), (qy5, .inl (cI, 20, .inl Ht)), (qy6, .inl (cI, 20, .inl Hu)), (qy7, .inl (cL, 40, .inr (.inl Tp)))] := hD.sub [0, 1, 2, 3, 4, 5, 6, 7, 8, 9, 10, 11, 12, 13, 14, 15, 16, 17, 18, 19] (by decide) rfl
  try dsimp only at hw194
  obtain ⟨n2, a2, b2⟩ := hw194
  obtain ⟨req, en, sm9, ok9⟩ := rel_slope hOm hOM hsm e1 b2 b1
  refine lv_icmp_eq (tgt := 721) hx hb dL_law_197 (by decide) (fun c197 => ?_) (fun c197 => ?_)
  · have k197 : (r170.toInt : Int) = r194.toInt := i_eq rfl rfl c197
    exact KK ls _ _ ⟨zm170, kt170, ks170, kf170, kl170, ku170, zh, gt, gu, zt, kp, zM194, Mt194, Ms194, Mf194, Ml194, zH, Ht, Hu, zT, Tp, bg, n1, nh, nt, hP, hD, hS, lv_sub hl [0, 1, 2, 3] rfl, ⟨a1, b1, c1, d1, hnh, hOh, hnt, hOt, by rw [a2, en], ok9, sm9, hnH, eH1, eH2, hnT, eT⟩⟩
  · have k197 : (r170.toInt : Int) ≠ r194.toInt := i_ne rfl rfl c197
    exact absurd (i_ext req) c197

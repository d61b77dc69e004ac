set_option maxHeartbeats 1000000 in
set_option maxRecDepth 100000 in
theorem lc_modulate {p : Program} {l : Launch} {e : Env} {s : State} {m : MethodId} {below : List Frame} {meth : Method} {c : Code} {b L : Nat} {xs : Nat → Int32} {G : va_G} {cI cL : ClassId} {A : Nat → Prop} {Q : State → Prop} {qx qm qm1 qm2 qm3 qm4 qm5 qh qh1 qh2 qt qt1 qy qy1 qy2 qy3 qy4 qy5 qy6 qy7 : Nat} (C : LC p s m c b L xs G cI cL) (hA : ∀ q : Nat, s.heap.size ≤ q → A q) (hbA : ¬ A b) {v3 : Int32} (hv : 0 ≤ v3.toInt ∧ v3.toInt + 5 ≤ L) {ls : Array Slot} {H : Heap} {locs : List Loc} (hI : Lq G cI cL A s b qx qm qm1 qm2 qm3 qm4 qm5 qh qh1 qh2 qt qt1 qy qy1 qy2 qy3 qy4 qy5 qy6 qy7 v3 ls H locs) (KK : ∀ (ls : Array Slot) (H : Heap) (locs : List Loc), Lq G cI cL A s b qx qm qm1 qm2 qm3 qm4 qm5 qh qh1 qh2 qt qt1 qy qy1 qy2 qy3 qy4 qy5 qy6 qy7 v3 ls H locs → W p l e room_1 s m #[Value.ref b] below meth c H locs 20 545 Q (F0 m 721 ls [])) : W p l e room_1 s m #[Value.ref b] below meth c H locs 20 545 Q (F0 m 202 ls []) := by
  obtain ⟨hx, hb, hml, hown, hts, hX, hbl, hK, hN, hL⟩ := C
  obtain ⟨zm, kt, ks, kf, kl, ku, zh, gt, gu, zt, kp, zM, Mt, Ms, Mf, Ml, zH, Ht, Hu, zT, Tp, bg, nm, nh, nt, hP, hD, hS, hl, hnm, hOm, hSr, hU, hnh, hOh, hnt, hOt, hnM, hOM, hsm, hnH, eH1, eH2, hnT, eT⟩ := hI
  have hOH : okH nh Ht Hu := by rw [eH1, eH2]; exact hOh
  have hOT : okT nt Tp := by rw [eT]; exact hOt
  have eP := pace_same hOm hOM hsm
  have hrv := ti_rng v3
  refine lv_aload_n hx hb dL_law_202 rfl (lv_at hl 1 rfl) ?_
  refine lv_aload_n hx hb dL_law_203 rfl (lv_at hl 0 rfl) ?_
  refine lv_iload_n hx hb dL_law_204 rfl (lv_at hl 3 rfl) ?_
  refine lv_iconst (v := 1) hx hb dL_law_205 (by decide) ?_
  refine lv_iadd hx hb dL_law_206 ?_
  refine lv_topi (fun x206 ex206 => ?_)
  have tx206 : x206.toInt = v3.toInt + 1 := by rw [ex206]; exact ti_add rfl (show ((1 : Int32)).toInt = 1 by decide) (by omega) (by omega)
  refine va_sld hx hb hX hbl hbA hS (vi_in rfl (by omega) (by omega)) dL_law_207 ?_
  refine lv_topi (fun x207 ex207 => ?_)
  refine lv_aload_n hx hb dL_law_208 rfl (lv_at hl 0 rfl) ?_
  refine lv_iload_n hx hb dL_law_209 rfl (lv_at hl 3 rfl) ?_
  refine lv_iconst (v := 2) hx hb dL_law_210 (by decide) ?_
  refine lv_iadd hx hb dL_law_211 ?_
  refine lv_topi (fun x211 ex211 => ?_)
  have tx211 : x211.toInt = v3.toInt + 2 := by rw [ex211]; exact ti_add rfl (show ((2 : Int32)).toInt = 2 by decide) (by omega) (by omega)
  refine va_sld hx hb hX hbl hbA hS (vi_in rfl (by omega) (by omega)) dL_law_212 ?_
  refine lv_topi (fun x212 ex212 => ?_)
  refine lv_aload_n hx hb dL_law_213 rfl (lv_at hl 0 rfl) ?_
  refine lv_iload_n hx hb dL_law_214 rfl (lv_at hl 3 rfl) ?_
  refine lv_iconst (v := 3) hx hb dL_law_215 (by decide) ?_
  refine lv_iadd hx hb dL_law_216 ?_
  refine lv_topi (fun x216 ex216 => ?_)
  have tx216 : x216.toInt = v3.toInt + 3 := by rw [ex216]; exact ti_add rfl (show ((3 : Int32)).toInt = 3 by decide) (by omega) (by omega)
  refine va_sld hx hb hX hbl hbA hS (vi_in rfl (by omega) (by omega)) dL_law_217 ?_
  refine lv_topi (fun x217 ex217 => ?_)
  have hPc := hP.sub (ws' := [(qx, .inr (3, [.ref qm, .ref qh, .ref qt])), (qm, .inr (1, [.ref qm1, .ref qm2, .ref qm3, .ref qm4, .ref qm5, .int zm])), (qm1, .inl (cI, 40, .inl kt)), (qm2, .inl (cI, 40, .inl ks)), (qm3, .inl (cI, 40, .inl kf)), (qm4, .inl (cI, 40, .inl kl)), (qm5, .inl (cL, 40, .inr (.inl ku))), (qh, .inr (0, [.ref qh1, .ref qh2, .int zh])), (qh1, .inl (cI, 20, .inl gt)), (qh2, .inl (cI, 20, .inl gu)), (qt, .inr (2, [.ref qt1, .int zt])), (qt1, .inl (cL, 40, .inr (.inl kp)))]) [0, 1, 2, 3, 4, 5, 6, 7, 8, 9, 10, 11] rfl
  have hDc := hD.sub (ws' := [(qx, .inr (3, [.ref qm, .ref qh, .ref qt])), (qm, .inr (1, [.ref qm1, .ref qm2, .ref qm3, .ref qm4, .ref qm5, .int zm])), (qm1, .inl (cI, 40, .inl kt)), (qm2, .inl (cI, 40, .inl ks)), (qm3, .inl (cI, 40, .inl kf)), (qm4, .inl (cI, 40, .inl kl)), (qm5, .inl (cL, 40, .inr (.inl ku))), (qh, .inr (0, [.ref qh1, .ref qh2, .int zh])), (qh1, .inl (cI, 20, .inl gt)), (qh2, .inl (cI, 20, .inl gu)), (qt, .inr (2, [.ref qt1, .int zt])), (qt1, .inl (cL, 40, .inr (.inl kp)))]) [0, 1, 2, 3, 4, 5, 6, 7, 8, 9, 10, 11] (by decide) rfl
  have hcc := (ct_X3_modulate l G cI cL H.size qx qm qm1 qm2 qm3 qm4 qm5 zm kt ks kf kl ku qh qh1 qh2 zh gt gu qt qt1 zt kp x207 x212 x217 nm hnm hOm hSr hU nh hnh hOh nt hnt hOt)
  refine rw_calli (wr := [(qy, .inr (4, [.ref qy1, .ref qy2, .ref qy3, .ref qy4, .int zM, .ref qy5, .ref qy6, .int zH, .ref qy7, .int zT, .long bg])), (qy1, .inl (cI, 40, .inl Mt)), (qy2, .inl (cI, 40, .inl Ms)), (qy3, .inl (cI, 40, .inl Mf)), (qy4, .inl (cI, 40, .inl Ml)), (qy5, .inl (cI, 20, .inl Ht)), (qy6, .inl (cI, 20, .inl Hu)), (qy7, .inl (cL, 40, .inr (.inl Tp)))]) (va_runV (As := [.int x207, .int x212, .int x217]) (rest := []) ⟨hx, hb, hml, hown, hts⟩ hcc (cwV 3 hts gL_law_X3_modulate rfl rfl rfl (by decide +kernel) ⟨Nat.le_of_ble_eq_true rfl, Nat.le_of_ble_eq_true rfl⟩) ⟨pre_blind, va_recv hK hPc (ci := 3) (q0 := 0) rfl rfl, pre_pass hK hN hPc hDc⟩ rfl rfl hl.1 rfl (lv_room (Nat.le_of_ble_eq_true rfl)) dL_law_218 ⟨Nat.le_of_ble_eq_true rfl, Nat.le_of_ble_eq_true rfl⟩) hP hD hS hA [0, 1, 2, 3, 4, 5, 6, 7, 8, 9, 10, 11] [12, 13, 14, 15, 16, 17, 18, 19] rfl rfl (by decide) (by decide) (fun r218 u218 H locs hw218 hP hD hS => ?_)
  obtain ⟨zm218, kt218, ks218, kf218, kl218, ku218⟩ := u218
  have hP : va_P G vwCl [(qx, .inr (3, [.ref qm, .ref qh, .ref qt])), (qm, .inr (1, [.ref qm1, .ref qm2, .ref qm3, .ref qm4, .ref qm5, .int zm218])), (qm1, .inl (cI, 40, .inl kt218)), (qm2, .inl (cI, 40, .inl ks218)), (qm3, .inl (cI, 40, .inl kf218)), (qm4, .inl (cI, 40, .inl kl218)), (qm5, .inl (cL, 40, .inr (.inl ku218))), (qh, .inr (0, [.ref qh1, .ref qh2, .int zh])), (qh1, .inl (cI, 20, .inl gt)), (qh2, .inl (cI, 20, .inl gu)), (qt, .inr (2, [.ref qt1, .int zt])), (qt1, .inl (cL, 40, .inr (.inl kp))), (qy, .inr (4, [.ref qy1, .ref qy2, .ref qy3, .ref qy4, .int zM, .ref qy5, .ref qy6, .int zH, .ref qy7, .int zT, .long bg])), (qy1, .inl (cI, 40, .inl Mt)), (qy2, .inl (cI, 40, .inl Ms)), (qy3, .inl (cI, 40, .inl Mf)), (qy4, .inl (cI, 40, .inl Ml)), (qy5, .inl (cI, 20, .inl Ht)), (qy6, .inl (cI, 20, .inl Hu)), (qy7, .inl (cL, 40, .inr (.inl Tp)))] H := hP.sub [8, 9, 10, 11, 12, 13, 14, 15, 16, 17, 18, 19, 0, 1, 2, 3, 4, 5, 6, 7] rfl
  have hD : va_D A [(qx, .inr (3, [.ref qm, .ref qh, .ref qt])), (qm, .inr (1, [.ref qm1, .ref qm2, .ref qm3, .ref qm4, .ref qm5, .int zm218])), (qm1, .inl (cI, 40, .inl kt218)), (qm2, .inl (cI, 40, .inl ks218)), (qm3, .inl (cI, 40, .inl kf218)), (qm4, .inl (cI, 40, .inl kl218)), (qm5, .inl (cL, 40, .inr (.inl ku218))), (qh, .inr (0, [.ref qh1, .ref qh2, .int zh])), (qh1, .inl (cI, 20, .inl gt)), (qh2, .inl (cI, 20, .inl gu)), (qt, .inr (2, [.ref qt1, .int zt])), (qt1, .inl (cL, 40, .inr (.inl kp))), (qy, .inr (4, [.ref qy1, .ref qy2, .ref qy3, .ref qy4, .int zM, .ref qy5, .ref qy6, .int zH, .ref qy7, .int zT, .long bg])), (qy1, .inl (cI, 40, .inl Mt)), (qy2, .inl (cI, 40, .inl Ms)), (qy3, .inl (cI, 40, .inl Mf)), (qy4, .inl (cI, 40, .inl Ml)), (qy5, .inl (cI, 20, .inl Ht)), (qy6, .inl (cI, 20, .inl Hu)), (qy7, .inl (cL, 40, .inr (.inl Tp)))] := hD.sub [8, 9, 10, 11, 12, 13, 14, 15, 16, 17, 18, 19, 0, 1, 2, 3, 4, 5, 6, 7] (by decide) rfl
  try dsimp only at hw218
  obtain ⟨n1, a1, b1, c1, d1, e1⟩ := hw218
  refine lv_aload_n hx hb dL_law_221 rfl (lv_at hl 2 rfl) ?_
  refine lv_aload_n hx hb dL_law_222 rfl (lv_at hl 0 rfl) ?_
  refine lv_iload_n hx hb dL_law_223 rfl (lv_at hl 3 rfl) ?_
  refine lv_iconst (v := 1) hx hb dL_law_224 (by decide) ?_
  refine lv_iadd hx hb dL_law_225 ?_
  refine lv_topi (fun x225 ex225 => ?_)
  have tx225 : x225.toInt = v3.toInt + 1 := by rw [ex225]; exact ti_add rfl (show ((1 : Int32)).toInt = 1 by decide) (by omega) (by omega)
  refine va_sld hx hb hX hbl hbA hS (vi_in rfl (by omega) (by omega)) dL_law_226 ?_
  refine lv_topi (fun x226 ex226 => ?_)
  obtain rfl : x207 = x226 := by rw [ex207, ex226, i_ext (x := x225) (y := x206) (by omega)]
  refine lv_aload_n hx hb dL_law_227 rfl (lv_at hl 0 rfl) ?_
  refine lv_iload_n hx hb dL_law_228 rfl (lv_at hl 3 rfl) ?_
  refine lv_iconst (v := 2) hx hb dL_law_229 (by decide) ?_
  refine lv_iadd hx hb dL_law_230 ?_
  refine lv_topi (fun x230 ex230 => ?_)
  have tx230 : x230.toInt = v3.toInt + 2 := by rw [ex230]; exact ti_add rfl (show ((2 : Int32)).toInt = 2 by decide) (by omega) (by omega)
  refine va_sld hx hb hX hbl hbA hS (vi_in rfl (by omega) (by omega)) dL_law_231 ?_
  refine lv_topi (fun x231 ex231 => ?_)
  obtain rfl : x212 = x231 := by rw [ex212, ex231, i_ext (x := x230) (y := x211) (by omega)]
  refine lv_aload_n hx hb dL_law_232 rfl (lv_at hl 0 rfl) ?_
  refine lv_iload_n hx hb dL_law_233 rfl (lv_at hl 3 rfl) ?_
  refine lv_iconst (v := 3) hx hb dL_law_234 (by decide) ?_
  refine lv_iadd hx hb dL_law_235 ?_
  refine lv_topi (fun x235 ex235 => ?_)
  have tx235 : x235.toInt = v3.toInt + 3 := by rw [ex235]; exact ti_add rfl (show ((3 : Int32)).toInt = 3 by decide) (by omega) (by omega)
  refine va_sld hx hb hX hbl hbA hS (vi_in rfl (by omega) (by omega)) dL_law_236 ?_
  refine lv_topi (fun x236 ex236 => ?_)
  obtain rfl : x217 = x236 := by rw [ex217, ex236, i_ext (x := x235) (y := x216) (by omega)]
  have hPc := hP.sub (ws' := [(qy, .inr (4, [.ref qy1, .ref qy2, .ref qy3, .ref qy4, .int zM, .ref qy5, .ref qy6, .int zH, .ref qy7, .int zT, .long bg])), (qy1, .inl (cI, 40, .inl Mt)), (qy2, .inl (cI, 40, .inl Ms)), (qy3, .inl (cI, 40, .inl Mf)), (qy4, .inl (cI, 40, .inl Ml)), (qy5, .inl (cI, 20, .inl Ht)), (qy6, .inl (cI, 20, .inl Hu)), (qy7, .inl (cL, 40, .inr (.inl Tp)))]) [12, 13, 14, 15, 16, 17, 18, 19] rfl
  have hDc := hD.sub (ws' := [(qy, .inr (4, [.ref qy1, .ref qy2, .ref qy3, .ref qy4, .int zM, .ref qy5, .ref qy6, .int zH, .ref qy7, .int zT, .long bg])), (qy1, .inl (cI, 40, .inl Mt)), (qy2, .inl (cI, 40, .inl Ms)), (qy3, .inl (cI, 40, .inl Mf)), (qy4, .inl (cI, 40, .inl Ml)), (qy5, .inl (cI, 20, .inl Ht)), (qy6, .inl (cI, 20, .inl Hu)), (qy7, .inl (cL, 40, .inr (.inl Tp)))]) [12, 13, 14, 15, 16, 17, 18, 19] (by decide) rfl
  have hcc := (ct_X4_modulate l G cI cL H.size qy qy1 qy2 qy3 qy4 qy5 qy6 qy7 zM zH zT bg Mt Ms Mf Ml Ht Hu Tp x207 x212 x217 nm hnM hOM nh hnH hOH nt hnT hOT)
  refine rw_calli (wr := [(qx, .inr (3, [.ref qm, .ref qh, .ref qt])), (qm, .inr (1, [.ref qm1, .ref qm2, .ref qm3, .ref qm4, .ref qm5, .int zm218])), (qm1, .inl (cI, 40, .inl kt218)), (qm2, .inl (cI, 40, .inl ks218)), (qm3, .inl (cI, 40, .inl kf218)), (qm4, .inl (cI, 40, .inl kl218)), (qm5, .inl (cL, 40, .inr (.inl ku218))), (qh, .inr (0, [.ref qh1, .ref qh2, .int zh])), (qh1, .inl (cI, 20, .inl gt)), (qh2, .inl (cI, 20, .inl gu)), (qt, .inr (2, [.ref qt1, .int zt])), (qt1, .inl (cL, 40, .inr (.inl kp)))]) (va_runV (As := [.int x207, .int x212, .int x217]) (rest := [.int r218]) ⟨hx, hb, hml, hown, hts⟩ hcc (cwV 3 hts gL_law_X4_modulate rfl rfl rfl (by decide +kernel) ⟨Nat.le_of_ble_eq_true rfl, Nat.le_of_ble_eq_true rfl⟩) ⟨pre_blind, va_recv hK hPc (ci := 4) (q0 := 0) rfl rfl, pre_pass hK hN hPc hDc⟩ rfl rfl hl.1 rfl (lv_room (Nat.le_of_ble_eq_true rfl)) dL_law_237 ⟨Nat.le_of_ble_eq_true rfl, Nat.le_of_ble_eq_true rfl⟩) hP hD hS hA [12, 13, 14, 15, 16, 17, 18, 19] [0, 1, 2, 3, 4, 5, 6, 7, 8, 9, 10, 11] rfl rfl (by decide) (by decide) (fun r237 u237 H locs hw237 hP hD hS => ?_)
  obtain ⟨zM237, Mt237, Ms237, Mf237, Ml237⟩ := u237
  have hP : va_P G vwCl [(qx, .inr (3, [.ref qm, .ref qh, .ref qt])), (qm, .inr (1, [.ref qm1, .ref qm2, .ref qm3, .ref qm4, .ref qm5, .int zm218])), (qm1, .inl (cI, 40, .inl kt218)), (qm2, .inl (cI, 40, .inl ks218)), (qm3, .inl (cI, 40, .inl kf218)), (qm4, .inl (cI, 40, .inl kl218)), (qm5, .inl (cL, 40, .inr (.inl ku218))), (qh, .inr (0, [.ref qh1, .ref qh2, .int zh])), (qh1, .inl (cI, 20, .inl gt)), (qh2, .inl (cI, 20, .inl gu)), (qt, .inr (2, [.ref qt1, .int zt])), (qt1, .inl (cL, 40, .inr (.inl kp))), (qy, .inr (4, [.ref qy1, .ref qy2, .ref qy3, .ref qy4, .int zM237, .ref qy5, .ref qy6, .int zH, .ref qy7, .int zT, .long bg])), (qy1, .inl (cI, 40, .inl Mt237)), (qy2, .inl (cI, 40, .inl Ms237)), (qy3, .inl (cI, 40, .inl Mf237)), (qy4, .inl (cI, 40, .inl Ml237)), (qy5, .inl (cI, 20, .inl Ht)), (qy6, .inl (cI, 20, .inl Hu)), (qy7, .inl (cL, 40, .inr (.inl Tp)))] H := hP.sub [0, 1, 2, 3, 4, 5, 6, 7, 8, 9, 10, 11, 12, 13, 14, 15, 16, 17, 18, 19] rfl
  have hD : va_D A [(qx, .inr (3, [.ref qm, .ref qh, .ref qt])), (qm, .inr (1, [.ref qm1, .ref qm2, .ref qm3, .ref qm4, .ref qm5, .int zm218])), (qm1, .inl (cI, 40, .inl kt218)), (qm2, .inl (cI, 40, .inl ks218)), (qm3, .inl (cI, 40, .inl kf218)), (qm4, .inl (cI, 40, .inl kl218)), (qm5, .inl (cL, 40, .inr (.inl ku218))), (qh, .inr (0, [.ref qh1, .ref qh2, .int zh])), (qh1, .inl (cI, 20, .inl gt)), (qh2, .inl (cI, 20, .inl gu)), (qt, .inr (2, [.ref qt1, .int zt])), (qt1, .inl (cL, 40, .inr (.inl kp))), (qy, .inr (4, [.ref qy1, .ref qy2, .ref qy3, .ref qy4, .int zM237, .ref qy5, .ref qy6, .int zH, .ref qy7, .int zT, .long bg])), (qy1, .inl (cI, 40, .inl Mt237)), (qy2, .inl (cI, 40, .inl Ms237)), (qy3, .inl (cI, 40, .inl Mf237)), (qy4, .inl (cI, 40, .inl Ml237)), (qy5, .inl (cI, 20, .inl Ht)), (qy6, .inl (cI, 20, .inl Hu)), (qy7, .inl (cL, 40, .inr (.inl Tp)))] := hD.sub [0, 1, 2, 3, 4, 5, 6, 7, 8, 9, 10, 11, 12, 13, 14, 15, 16, 17, 18, 19] (by decide) rfl
  try dsimp only at hw237
  obtain ⟨n2, a2, b2⟩ := hw237
  rw [eP] at e1
  obtain ⟨req, en, sm9, ok9⟩ := rel_mod hOm hOM hsm e1 b2 b1
  refine lv_icmp_eq (tgt := 721) hx hb dL_law_240 (by decide) (fun c240 => ?_) (fun c240 => ?_)
  · have k240 : (r218.toInt : Int) = r237.toInt := i_eq rfl rfl c240
    exact KK ls _ _ ⟨zm218, kt218, ks218, kf218, kl218, ku218, zh, gt, gu, zt, kp, zM237, Mt237, Ms237, Mf237, Ml237, zH, Ht, Hu, zT, Tp, bg, n1, nh, nt, hP, hD, hS, lv_sub hl [0, 1, 2, 3] rfl, ⟨a1, b1, c1, d1, hnh, hOh, hnt, hOt, by rw [a2, en], ok9, sm9, hnH, eH1, eH2, hnT, eT⟩⟩
  · have k240 : (r218.toInt : Int) ≠ r237.toInt := i_ne rfl rfl c240
    exact absurd (i_ext req) c240

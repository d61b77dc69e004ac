set_option maxHeartbeats 1000000 in
set_option maxRecDepth 100000 in
theorem lc_hold {p : Program} {l : Launch} {e : Env} {s : State} {m : MethodId} {below : List Frame} {meth : Method} {c : Code} {b L : Nat} {xs : Nat → Int32} {G : va_G} {cI cL : ClassId} {A : Nat → Prop} {Q : State → Prop} {qx qm qm1 qm2 qm3 qm4 qm5 qh qh1 qh2 qt qt1 qy qy1 qy2 qy3 qy4 qy5 qy6 qy7 : Nat} (C : LC p s m c b L xs G cI cL) (hA : ∀ q : Nat, s.heap.size ≤ q → A q) (hbA : ¬ A b) {v3 : Int32} (hv : 0 ≤ v3.toInt ∧ v3.toInt + 5 ≤ L) {ls : Array Slot} {H : Heap} {locs : List Loc} (hI : Lq G cI cL A s b qx qm qm1 qm2 qm3 qm4 qm5 qh qh1 qh2 qt qt1 qy qy1 qy2 qy3 qy4 qy5 qy6 qy7 v3 ls H locs) (KK : ∀ (ls : Array Slot) (H : Heap) (locs : List Loc), Lq G cI cL A s b qx qm qm1 qm2 qm3 qm4 qm5 qh qh1 qh2 qt qt1 qy qy1 qy2 qy3 qy4 qy5 qy6 qy7 v3 ls H locs → W p l e room_1 s m #[Value.ref b] below meth c H locs 20 545 Q (F0 m 721 ls [])) : W p l e room_1 s m #[Value.ref b] below meth c H locs 20 545 Q (F0 m 268 ls []) := by
  obtain ⟨hx, hb, hml, hown, hts, hX, hbl, hK, hN, hL⟩ := C
  obtain ⟨zm, kt, ks, kf, kl, ku, zh, gt, gu, zt, kp, zM, Mt, Ms, Mf, Ml, zH, Ht, Hu, zT, Tp, bg, nm, nh, nt, hP, hD, hS, hl, hnm, hOm, hSr, hU, hnh, hOh, hnt, hOt, hnM, hOM, hsm, hnH, eH1, eH2, hnT, eT⟩ := hI
  have hOH : okH nh Ht Hu := by rw [eH1, eH2]; exact hOh
  have hOT : okT nt Tp := by rw [eT]; exact hOt
  have eP := pace_same hOm hOM hsm
  have hrv := ti_rng v3
  refine lv_aload_n hx hb dL_law_268 rfl (lv_at hl 1 rfl) ?_
  refine lv_aload_n hx hb dL_law_269 rfl (lv_at hl 0 rfl) ?_
  refine lv_iload_n hx hb dL_law_270 rfl (lv_at hl 3 rfl) ?_
  refine lv_iconst (v := 1) hx hb dL_law_271 (by decide) ?_
  refine lv_iadd hx hb dL_law_272 ?_
  refine lv_topi (fun x272 ex272 => ?_)
  have tx272 : x272.toInt = v3.toInt + 1 := by rw [ex272]; exact ti_add rfl (show ((1 : Int32)).toInt = 1 by decide) (by omega) (by omega)
  refine va_sld hx hb hX hbl hbA hS (vi_in rfl (by omega) (by omega)) dL_law_273 ?_
  refine lv_topi (fun x273 ex273 => ?_)
  refine lv_aload_n hx hb dL_law_274 rfl (lv_at hl 0 rfl) ?_
  refine lv_iload_n hx hb dL_law_275 rfl (lv_at hl 3 rfl) ?_
  refine lv_iconst (v := 2) hx hb dL_law_276 (by decide) ?_
  refine lv_iadd hx hb dL_law_277 ?_
  refine lv_topi (fun x277 ex277 => ?_)
  have tx277 : x277.toInt = v3.toInt + 2 := by rw [ex277]; exact ti_add rfl (show ((2 : Int32)).toInt = 2 by decide) (by omega) (by omega)
  refine va_sld hx hb hX hbl hbA hS (vi_in rfl (by omega) (by omega)) dL_law_278 ?_
  refine lv_topi (fun x278 ex278 => ?_)
  have hPc := hP.sub (ws' := [(qx, .inr (3, [.ref qm, .ref qh, .ref qt])), (qm, .inr (1, [.ref qm1, .ref qm2, .ref qm3, .ref qm4, .ref qm5, .int zm])), (qm1, .inl (cI, 40, .inl kt)), (qm2, .inl (cI, 40, .inl ks)), (qm3, .inl (cI, 40, .inl kf)), (qm4, .inl (cI, 40, .inl kl)), (qm5, .inl (cL, 40, .inr (.inl ku))), (qh, .inr (0, [.ref qh1, .ref qh2, .int zh])), (qh1, .inl (cI, 20, .inl gt)), (qh2, .inl (cI, 20, .inl gu)), (qt, .inr (2, [.ref qt1, .int zt])), (qt1, .inl (cL, 40, .inr (.inl kp)))]) [0, 1, 2, 3, 4, 5, 6, 7, 8, 9, 10, 11] rfl
  have hDc := hD.sub (ws' := [(qx, .inr (3, [.ref qm, .ref qh, .ref qt])), (qm, .inr (1, [.ref qm1, .ref qm2, .ref qm3, .ref qm4, .ref qm5, .int zm])), (qm1, .inl (cI, 40, .inl kt)), (qm2, .inl (cI, 40, .inl ks)), (qm3, .inl (cI, 40, .inl kf)), (qm4, .inl (cI, 40, .inl kl)), (qm5, .inl (cL, 40, .inr (.inl ku))), (qh, .inr (0, [.ref qh1, .ref qh2, .int zh])), (qh1, .inl (cI, 20, .inl gt)), (qh2, .inl (cI, 20, .inl gu)), (qt, .inr (2, [.ref qt1, .int zt])), (qt1, .inl (cL, 40, .inr (.inl kp)))]) [0, 1, 2, 3, 4, 5, 6, 7, 8, 9, 10, 11] (by decide) rfl
  have hcc := (ct_X3_hold l G cI cL H.size qx qm qm1 qm2 qm3 qm4 qm5 zm kt ks kf kl ku qh qh1 qh2 zh gt gu qt qt1 zt kp x273 x278 nm hnm hOm hSr hU nh hnh hOh nt hnt hOt)
  refine rw_calli (wr := [(qy, .inr (4, [.ref qy1, .ref qy2, .ref qy3, .ref qy4, .int zM, .ref qy5, .ref qy6, .int zH, .ref qy7, .int zT, .long bg])), (qy1, .inl (cI, 40, .inl Mt)), (qy2, .inl (cI, 40, .inl Ms)), (qy3, .inl (cI, 40, .inl Mf)), (qy4, .inl (cI, 40, .inl Ml)), (qy5, .inl (cI, 20, .inl Ht)), (qy6, .inl (cI, 20, .inl Hu)), (qy7, .inl (cL, 40, .inr (.inl Tp)))]) (va_runV (As := [.int x273, .int x278]) (rest := []) ⟨hx, hb, hml, hown, hts⟩ hcc (cwV 2 hts gL_law_X3_hold rfl rfl rfl (by decide +kernel) ⟨Nat.le_of_ble_eq_true rfl, Nat.le_of_ble_eq_true rfl⟩) ⟨pre_blind, va_recv hK hPc (ci := 3) (q0 := 0) rfl rfl, pre_pass hK hN hPc hDc⟩ rfl rfl hl.1 rfl (lv_room (Nat.le_of_ble_eq_true rfl)) dL_law_279 ⟨Nat.le_of_ble_eq_true rfl, Nat.le_of_ble_eq_true rfl⟩) hP hD hS hA [0, 1, 2, 3, 4, 5, 6, 7, 8, 9, 10, 11] [12, 13, 14, 15, 16, 17, 18, 19] rfl rfl (by decide) (by decide) (fun r279 u279 H locs hw279 hP hD hS => ?_)
  obtain ⟨zh279, gt279, gu279⟩ := u279
  have hP : va_P G vwCl [(qx, .inr (3, [.ref qm, .ref qh, .ref qt])), (qm, .inr (1, [.ref qm1, .ref qm2, .ref qm3, .ref qm4, .ref qm5, .int zm])), (qm1, .inl (cI, 40, .inl kt)), (qm2, .inl (cI, 40, .inl ks)), (qm3, .inl (cI, 40, .inl kf)), (qm4, .inl (cI, 40, .inl kl)), (qm5, .inl (cL, 40, .inr (.inl ku))), (qh, .inr (0, [.ref qh1, .ref qh2, .int zh279])), (qh1, .inl (cI, 20, .inl gt279)), (qh2, .inl (cI, 20, .inl gu279)), (qt, .inr (2, [.ref qt1, .int zt])), (qt1, .inl (cL, 40, .inr (.inl kp))), (qy, .inr (4, [.ref qy1, .ref qy2, .ref qy3, .ref qy4, .int zM, .ref qy5, .ref qy6, .int zH, .ref qy7, .int zT, .long bg])), (qy1, .inl (cI, 40, .inl Mt)), (qy2, .inl (cI, 40, .inl Ms)), (qy3, .inl (cI, 40, .inl Mf)), (qy4, .inl (cI, 40, .inl Ml)), (qy5, .inl (cI, 20, .inl Ht)), (qy6, .inl (cI, 20, .inl Hu)), (qy7, .inl (cL, 40, .inr (.inl Tp)))] H := hP.sub [8, 9, 10, 11, 12, 13, 14, 15, 16, 17, 18, 19, 0, 1, 2, 3, 4, 5, 6, 7] rfl
  have hD : va_D A [(qx, .inr (3, [.ref qm, .ref qh, .ref qt])), (qm, .inr (1, [.ref qm1, .ref qm2, .ref qm3, .ref qm4, .ref qm5, .int zm])), (qm1, .inl (cI, 40, .inl kt)), (qm2, .inl (cI, 40, .inl ks)), (qm3, .inl (cI, 40, .inl kf)), (qm4, .inl (cI, 40, .inl kl)), (qm5, .inl (cL, 40, .inr (.inl ku))), (qh, .inr (0, [.ref qh1, .ref qh2, .int zh279])), (qh1, .inl (cI, 20, .inl gt279)), (qh2, .inl (cI, 20, .inl gu279)), (qt, .inr (2, [.ref qt1, .int zt])), (qt1, .inl (cL, 40, .inr (.inl kp))), (qy, .inr (4, [.ref qy1, .ref qy2, .ref qy3, .ref qy4, .int zM, .ref qy5, .ref qy6, .int zH, .ref qy7, .int zT, .long bg])), (qy1, .inl (cI, 40, .inl Mt)), (qy2, .inl (cI, 40, .inl Ms)), (qy3, .inl (cI, 40, .inl Mf)), (qy4, .inl (cI, 40, .inl Ml)), (qy5, .inl (cI, 20, .inl Ht)), (qy6, .inl (cI, 20, .inl Hu)), (qy7, .inl (cL, 40, .inr (.inl Tp)))] := hD.sub [8, 9, 10, 11, 12, 13, 14, 15, 16, 17, 18, 19, 0, 1, 2, 3, 4, 5, 6, 7] (by decide) rfl
  try dsimp only at hw279
  obtain ⟨n1, a1, b1⟩ := hw279
  refine lv_aload_n hx hb dL_law_282 rfl (lv_at hl 2 rfl) ?_
  refine lv_aload_n hx hb dL_law_283 rfl (lv_at hl 0 rfl) ?_
  refine lv_iload_n hx hb dL_law_284 rfl (lv_at hl 3 rfl) ?_
  refine lv_iconst (v := 1) hx hb dL_law_285 (by decide) ?_
  refine lv_iadd hx hb dL_law_286 ?_
  refine lv_topi (fun x286 ex286 => ?_)
  have tx286 : x286.toInt = v3.toInt + 1 := by rw [ex286]; exact ti_add rfl (show ((1 : Int32)).toInt = 1 by decide) (by omega) (by omega)
  refine va_sld hx hb hX hbl hbA hS (vi_in rfl (by omega) (by omega)) dL_law_287 ?_
  refine lv_topi (fun x287 ex287 => ?_)
  obtain rfl : x273 = x287 := by rw [ex273, ex287, i_ext (x := x286) (y := x272) (by omega)]
  refine lv_aload_n hx hb dL_law_288 rfl (lv_at hl 0 rfl) ?_
  refine lv_iload_n hx hb dL_law_289 rfl (lv_at hl 3 rfl) ?_
  refine lv_iconst (v := 2) hx hb dL_law_290 (by decide) ?_
  refine lv_iadd hx hb dL_law_291 ?_
  refine lv_topi (fun x291 ex291 => ?_)
  have tx291 : x291.toInt = v3.toInt + 2 := by rw [ex291]; exact ti_add rfl (show ((2 : Int32)).toInt = 2 by decide) (by omega) (by omega)
  refine va_sld hx hb hX hbl hbA hS (vi_in rfl (by omega) (by omega)) dL_law_292 ?_
  refine lv_topi (fun x292 ex292 => ?_)
  obtain rfl : x278 = x292 := by rw [ex278, ex292, i_ext (x := x291) (y := x277) (by omega)]
  have hPc := hP.sub (ws' := [(qy, .inr (4, [.ref qy1, .ref qy2, .ref qy3, .ref qy4, .int zM, .ref qy5, .ref qy6, .int zH, .ref qy7, .int zT, .long bg])), (qy1, .inl (cI, 40, .inl Mt)), (qy2, .inl (cI, 40, .inl Ms)), (qy3, .inl (cI, 40, .inl Mf)), (qy4, .inl (cI, 40, .inl Ml)), (qy5, .inl (cI, 20, .inl Ht)), (qy6, .inl (cI, 20, .inl Hu)), (qy7, .inl (cL, 40, .inr (.inl Tp)))]) [12, 13, 14, 15, 16, 17, 18, 19] rfl
  have hDc := hD.sub (ws' := [(qy, .inr (4, [.ref qy1, .ref qy2, .ref qy3, .ref qy4, .int zM, .ref qy5, .ref qy6, .int zH, .ref qy7, .int zT, .long bg])), (qy1, .inl (cI, 40, .inl Mt)), (qy2, .inl (cI, 40, .inl Ms)), (qy3, .inl (cI, 40, .inl Mf)), (qy4, .inl (cI, 40, .inl Ml)), (qy5, .inl (cI, 20, .inl Ht)), (qy6, .inl (cI, 20, .inl Hu)), (qy7, .inl (cL, 40, .inr (.inl Tp)))]) [12, 13, 14, 15, 16, 17, 18, 19] (by decide) rfl
  have hcc := (ct_X4_hold l G cI cL H.size qy qy1 qy2 qy3 qy4 qy5 qy6 qy7 zM zH zT bg Mt Ms Mf Ml Ht Hu Tp x273 x278 nm hnM hOM nh hnH hOH nt hnT hOT)
  refine rw_calli (wr := [(qx, .inr (3, [.ref qm, .ref qh, .ref qt])), (qm, .inr (1, [.ref qm1, .ref qm2, .ref qm3, .ref qm4, .ref qm5, .int zm])), (qm1, .inl (cI, 40, .inl kt)), (qm2, .inl (cI, 40, .inl ks)), (qm3, .inl (cI, 40, .inl kf)), (qm4, .inl (cI, 40, .inl kl)), (qm5, .inl (cL, 40, .inr (.inl ku))), (qh, .inr (0, [.ref qh1, .ref qh2, .int zh279])), (qh1, .inl (cI, 20, .inl gt279)), (qh2, .inl (cI, 20, .inl gu279)), (qt, .inr (2, [.ref qt1, .int zt])), (qt1, .inl (cL, 40, .inr (.inl kp)))]) (va_runV (As := [.int x273, .int x278]) (rest := [.int r279]) ⟨hx, hb, hml, hown, hts⟩ hcc (cwV 2 hts gL_law_X4_hold rfl rfl rfl (by decide +kernel) ⟨Nat.le_of_ble_eq_true rfl, Nat.le_of_ble_eq_true rfl⟩) ⟨pre_blind, va_recv hK hPc (ci := 4) (q0 := 0) rfl rfl, pre_pass hK hN hPc hDc⟩ rfl rfl hl.1 rfl (lv_room (Nat.le_of_ble_eq_true rfl)) dL_law_293 ⟨Nat.le_of_ble_eq_true rfl, Nat.le_of_ble_eq_true rfl⟩) hP hD hS hA [12, 13, 14, 15, 16, 17, 18, 19] [0, 1, 2, 3, 4, 5, 6, 7, 8, 9, 10, 11] rfl rfl (by decide) (by decide) (fun r293 u293 H locs hw293 hP hD hS => ?_)
  obtain ⟨zH293, Ht293, Hu293⟩ := u293
  have hP : va_P G vwCl [(qx, .inr (3, [.ref qm, .ref qh, .ref qt])), (qm, .inr (1, [.ref qm1, .ref qm2, .ref qm3, .ref qm4, .ref qm5, .int zm])), (qm1, .inl (cI, 40, .inl kt)), (qm2, .inl (cI, 40, .inl ks)), (qm3, .inl (cI, 40, .inl kf)), (qm4, .inl (cI, 40, .inl kl)), (qm5, .inl (cL, 40, .inr (.inl ku))), (qh, .inr (0, [.ref qh1, .ref qh2, .int zh279])), (qh1, .inl (cI, 20, .inl gt279)), (qh2, .inl (cI, 20, .inl gu279)), (qt, .inr (2, [.ref qt1, .int zt])), (qt1, .inl (cL, 40, .inr (.inl kp))), (qy, .inr (4, [.ref qy1, .ref qy2, .ref qy3, .ref qy4, .int zM, .ref qy5, .ref qy6, .int zH293, .ref qy7, .int zT, .long bg])), (qy1, .inl (cI, 40, .inl Mt)), (qy2, .inl (cI, 40, .inl Ms)), (qy3, .inl (cI, 40, .inl Mf)), (qy4, .inl (cI, 40, .inl Ml)), (qy5, .inl (cI, 20, .inl Ht293)), (qy6, .inl (cI, 20, .inl Hu293)), (qy7, .inl (cL, 40, .inr (.inl Tp)))] H := hP.sub [0, 1, 2, 3, 4, 5, 6, 7, 8, 9, 10, 11, 12, 13, 14, 15, 16, 17, 18, 19] rfl
  have hD : va_D A [(qx, .inr (3, [.ref qm, .ref qh, .ref qt])), (qm, .inr (1, [.ref qm1, .ref qm2, .ref qm3, .ref qm4, .ref qm5, .int zm])), (qm1, .inl (cI, 40, .inl kt)), (qm2, .inl (cI, 40, .inl ks)), (qm3, .inl (cI, 40, .inl kf)), (qm4, .inl (cI, 40, .inl kl)), (qm5, .inl (cL, 40, .inr (.inl ku))), (qh, .inr (0, [.ref qh1, .ref qh2, .int zh279])), (qh1, .inl (cI, 20, .inl gt279)), (qh2, .inl (cI, 20, .inl gu279)), (qt, .inr (2, [.ref qt1, .int zt])), (qt1, .inl (cL, 40, .inr (.inl kp))), (qy, .inr (4, [.ref qy1, .ref qy2, .ref qy3, .ref qy4, .int zM, .ref qy5, .ref qy6, .int zH293, .ref qy7, .int zT, .long bg])), (qy1, .inl (cI, 40, .inl Mt)), (qy2, .inl (cI, 40, .inl Ms)), (qy3, .inl (cI, 40, .inl Mf)), (qy4, .inl (cI, 40, .inl Ml)), (qy5, .inl (cI, 20, .inl Ht293)), (qy6, .inl (cI, 20, .inl Hu293)), (qy7, .inl (cL, 40, .inr (.inl Tp)))] := hD.sub [0, 1, 2, 3, 4, 5, 6, 7, 8, 9, 10, 11, 12, 13, 14, 15, 16, 17, 18, 19] (by decide) rfl
  try dsimp only at hw293
  obtain ⟨n2, a2, b2⟩ := hw293
  rw [eH1, eH2] at b2
  obtain ⟨req, en, et, eu⟩ := hHold_u b1 b2
  refine lv_icmp_eq (tgt := 721) hx hb dL_law_296 (by decide) (fun c296 => ?_) (fun c296 => ?_)
  · have k296 : (r279.toInt : Int) = r293.toInt := i_eq rfl rfl c296
    exact KK ls _ _ ⟨zm, kt, ks, kf, kl, ku, zh279, gt279, gu279, zt, kp, zM, Mt, Ms, Mf, Ml, zH293, Ht293, Hu293, zT, Tp, bg, nm, n1, nt, hP, hD, hS, lv_sub hl [0, 1, 2, 3] rfl, ⟨hnm, hOm, hSr, hU, a1, hHold_ok hOh b1, hnt, hOt, hnM, hOM, hsm, by rw [a2, en], et, eu, hnT, eT⟩⟩
  · have k296 : (r279.toInt : Int) ≠ r293.toInt := i_ne rfl rfl c296
    exact absurd (i_ext req) c296

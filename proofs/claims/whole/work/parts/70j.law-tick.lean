set_option maxHeartbeats 1000000 in
set_option maxRecDepth 100000 in
theorem lc_tick {p : Program} {l : Launch} {e : Env} {s : State} {m : MethodId} {below : List Frame} {meth : Method} {c : Code} {b L : Nat} {xs : Nat → Int32} {G : va_G} {cI cL : ClassId} {A : Nat → Prop} {Q : State → Prop} {qx qm qm1 qm2 qm3 qm4 qm5 qh qh1 qh2 qt qt1 qy qy1 qy2 qy3 qy4 qy5 qy6 qy7 : Nat} (C : LC p s m c b L xs G cI cL) (hA : ∀ q : Nat, s.heap.size ≤ q → A q) (hbA : ¬ A b) {v3 : Int32} (hv : 0 ≤ v3.toInt ∧ v3.toInt + 5 ≤ L) {ls : Array Slot} {H : Heap} {locs : List Loc} (hI : Lq G cI cL A s b qx qm qm1 qm2 qm3 qm4 qm5 qh qh1 qh2 qt qt1 qy qy1 qy2 qy3 qy4 qy5 qy6 qy7 v3 ls H locs) (KK : ∀ (ls : Array Slot) (H : Heap) (locs : List Loc), Lq G cI cL A s b qx qm qm1 qm2 qm3 qm4 qm5 qh qh1 qh2 qt qt1 qy qy1 qy2 qy3 qy4 qy5 qy6 qy7 v3 ls H locs → W p l e room_1 s m #[Value.ref b] below meth c H locs 20 545 Q (F0 m 721 ls [])) : W p l e room_1 s m #[Value.ref b] below meth c H locs 20 545 Q (F0 m 404 ls []) := by
  obtain ⟨hx, hb, hml, hown, hts, hX, hbl, hK, hN, hL⟩ := C
  obtain ⟨zm, kt, ks, kf, kl, ku, zh, gt, gu, zt, kp, zM, Mt, Ms, Mf, Ml, zH, Ht, Hu, zT, Tp, bg, nm, nh, nt, hP, hD, hS, hl, hnm, hOm, hSr, hU, hnh, hOh, hnt, hOt, hnM, hOM, hsm, hnH, eH1, eH2, hnT, eT⟩ := hI
  have hOH : okH nh Ht Hu := by rw [eH1, eH2]; exact hOh
  have hOT : okT nt Tp := by rw [eT]; exact hOt
  have eP := pace_same hOm hOM hsm
  have hrv := ti_rng v3
  refine lv_aload_n hx hb dL_law_404 rfl (lv_at hl 1 rfl) ?_
  refine lv_aload_n hx hb dL_law_405 rfl (lv_at hl 0 rfl) ?_
  refine lv_iload_n hx hb dL_law_406 rfl (lv_at hl 3 rfl) ?_
  refine lv_iconst (v := 1) hx hb dL_law_407 (by decide) ?_
  refine lv_iadd hx hb dL_law_408 ?_
  refine lv_topi (fun x408 ex408 => ?_)
  have tx408 : x408.toInt = v3.toInt + 1 := by rw [ex408]; exact ti_add rfl (show ((1 : Int32)).toInt = 1 by decide) (by omega) (by omega)
  refine va_sld hx hb hX hbl hbA hS (vi_in rfl (by omega) (by omega)) dL_law_409 ?_
  refine lv_topi (fun x409 ex409 => ?_)
  refine lv_i2l hx hb dL_law_410 rfl ?_
  refine lv_topl (fun x410 ex410 => ?_)
  have tx410 : x410.toInt = x409.toInt := by rw [ex410]; exact tc_i2l rfl
  refine lv_bipush (v := 32) hx hb dL_law_411 (by decide) ?_
  refine lv_lshl hx hb dL_law_413 rfl ?_
  refine lv_topl (fun x413 ex413 => ?_)
  refine lv_aload_n hx hb dL_law_414 rfl (lv_at hl 0 rfl) ?_
  refine lv_iload_n hx hb dL_law_415 rfl (lv_at hl 3 rfl) ?_
  refine lv_iconst (v := 2) hx hb dL_law_416 (by decide) ?_
  refine lv_iadd hx hb dL_law_417 ?_
  refine lv_topi (fun x417 ex417 => ?_)
  have tx417 : x417.toInt = v3.toInt + 2 := by rw [ex417]; exact ti_add rfl (show ((2 : Int32)).toInt = 2 by decide) (by omega) (by omega)
  refine va_sld hx hb hX hbl hbA hS (vi_in rfl (by omega) (by omega)) dL_law_418 ?_
  refine lv_topi (fun x418 ex418 => ?_)
  refine lv_i2l hx hb dL_law_419 rfl ?_
  refine lv_topl (fun x419 ex419 => ?_)
  have tx419 : x419.toInt = x418.toInt := by rw [ex419]; exact tc_i2l rfl
  refine lv_ldc2 (v := 4294967295) hx hb hown (hts (.constantLong RL 54 4294967295) (by decide +kernel)) dL_law_420 ?_
  refine lv_land hx hb dL_law_423 ?_
  refine lv_topl (fun x423 ex423 => ?_)
  refine lv_lor hx hb dL_law_424 ?_
  refine lv_topl (fun x424 ex424 => ?_)
  have hPc := hP.sub (ws' := [(qx, .inr (3, [.ref qm, .ref qh, .ref qt])), (qm, .inr (1, [.ref qm1, .ref qm2, .ref qm3, .ref qm4, .ref qm5, .int zm])), (qm1, .inl (cI, 40, .inl kt)), (qm2, .inl (cI, 40, .inl ks)), (qm3, .inl (cI, 40, .inl kf)), (qm4, .inl (cI, 40, .inl kl)), (qm5, .inl (cL, 40, .inr (.inl ku))), (qh, .inr (0, [.ref qh1, .ref qh2, .int zh])), (qh1, .inl (cI, 20, .inl gt)), (qh2, .inl (cI, 20, .inl gu)), (qt, .inr (2, [.ref qt1, .int zt])), (qt1, .inl (cL, 40, .inr (.inl kp)))]) [0, 1, 2, 3, 4, 5, 6, 7, 8, 9, 10, 11] rfl
  have hDc := hD.sub (ws' := [(qx, .inr (3, [.ref qm, .ref qh, .ref qt])), (qm, .inr (1, [.ref qm1, .ref qm2, .ref qm3, .ref qm4, .ref qm5, .int zm])), (qm1, .inl (cI, 40, .inl kt)), (qm2, .inl (cI, 40, .inl ks)), (qm3, .inl (cI, 40, .inl kf)), (qm4, .inl (cI, 40, .inl kl)), (qm5, .inl (cL, 40, .inr (.inl ku))), (qh, .inr (0, [.ref qh1, .ref qh2, .int zh])), (qh1, .inl (cI, 20, .inl gt)), (qh2, .inl (cI, 20, .inl gu)), (qt, .inr (2, [.ref qt1, .int zt])), (qt1, .inl (cL, 40, .inr (.inl kp)))]) [0, 1, 2, 3, 4, 5, 6, 7, 8, 9, 10, 11] (by decide) rfl
  have hcc := (ct_X3_tick l G cI cL H.size qx qm qm1 qm2 qm3 qm4 qm5 zm kt ks kf kl ku qh qh1 qh2 zh gt gu qt qt1 zt kp x424 nm hnm hOm hSr hU nh hnh hOh nt hnt hOt)
  refine ro_calli (va_runV (As := [.long x424]) (rest := []) ⟨hx, hb, hml, hown, hts⟩ hcc (cwV 1 hts gL_law_X3_tick rfl rfl rfl (by decide +kernel) ⟨Nat.le_of_ble_eq_true rfl, Nat.le_of_ble_eq_true rfl⟩) ⟨pre_blind, va_recv hK hPc (ci := 3) (q0 := 0) rfl rfl, pre_pass hK hN hPc hDc⟩ rfl rfl hl.1 rfl (lv_room (Nat.le_of_ble_eq_true rfl)) dL_law_425 ⟨Nat.le_of_ble_eq_true rfl, Nat.le_of_ble_eq_true rfl⟩) hP hD hS hA [0, 1, 2, 3, 4, 5, 6, 7, 8, 9, 10, 11] rfl (fun r425 H locs hw425 hP hS => ?_)
  try dsimp only at hw425
  refine lv_aload_n hx hb dL_law_428 rfl (lv_at hl 2 rfl) ?_
  refine lv_aload_n hx hb dL_law_429 rfl (lv_at hl 0 rfl) ?_
  refine lv_iload_n hx hb dL_law_430 rfl (lv_at hl 3 rfl) ?_
  refine lv_iconst (v := 1) hx hb dL_law_431 (by decide) ?_
  refine lv_iadd hx hb dL_law_432 ?_
  refine lv_topi (fun x432 ex432 => ?_)
  have tx432 : x432.toInt = v3.toInt + 1 := by rw [ex432]; exact ti_add rfl (show ((1 : Int32)).toInt = 1 by decide) (by omega) (by omega)
  refine va_sld hx hb hX hbl hbA hS (vi_in rfl (by omega) (by omega)) dL_law_433 ?_
  refine lv_topi (fun x433 ex433 => ?_)
  obtain rfl : x409 = x433 := by rw [ex409, ex433, i_ext (x := x432) (y := x408) (by omega)]
  refine lv_i2l hx hb dL_law_434 rfl ?_
  refine lv_topl (fun x434 ex434 => ?_)
  have tx434 : x434.toInt = x409.toInt := by rw [ex434]; exact tc_i2l rfl
  refine lv_bipush (v := 32) hx hb dL_law_435 (by decide) ?_
  refine lv_lshl hx hb dL_law_437 rfl ?_
  refine lv_topl (fun x437 ex437 => ?_)
  refine lv_aload_n hx hb dL_law_438 rfl (lv_at hl 0 rfl) ?_
  refine lv_iload_n hx hb dL_law_439 rfl (lv_at hl 3 rfl) ?_
  refine lv_iconst (v := 2) hx hb dL_law_440 (by decide) ?_
  refine lv_iadd hx hb dL_law_441 ?_
  refine lv_topi (fun x441 ex441 => ?_)
  have tx441 : x441.toInt = v3.toInt + 2 := by rw [ex441]; exact ti_add rfl (show ((2 : Int32)).toInt = 2 by decide) (by omega) (by omega)
  refine va_sld hx hb hX hbl hbA hS (vi_in rfl (by omega) (by omega)) dL_law_442 ?_
  refine lv_topi (fun x442 ex442 => ?_)
  obtain rfl : x418 = x442 := by rw [ex418, ex442, i_ext (x := x441) (y := x417) (by omega)]
  refine lv_i2l hx hb dL_law_443 rfl ?_
  refine lv_topl (fun x443 ex443 => ?_)
  have tx443 : x443.toInt = x418.toInt := by rw [ex443]; exact tc_i2l rfl
  refine lv_ldc2 (v := 4294967295) hx hb hown (hts (.constantLong RL 54 4294967295) (by decide +kernel)) dL_law_444 ?_
  refine lv_land hx hb dL_law_447 ?_
  refine lv_topl (fun x447 ex447 => ?_)
  refine lv_lor hx hb dL_law_448 ?_
  refine lv_topl (fun x448 ex448 => ?_)
  obtain rfl : x424 = x448 := by rw [ex424, ex448, ex413, ex437, ex410, ex434, ex423, ex447, ex419, ex443]
  have hPc := hP.sub (ws' := [(qy, .inr (4, [.ref qy1, .ref qy2, .ref qy3, .ref qy4, .int zM, .ref qy5, .ref qy6, .int zH, .ref qy7, .int zT, .long bg])), (qy1, .inl (cI, 40, .inl Mt)), (qy2, .inl (cI, 40, .inl Ms)), (qy3, .inl (cI, 40, .inl Mf)), (qy4, .inl (cI, 40, .inl Ml)), (qy5, .inl (cI, 20, .inl Ht)), (qy6, .inl (cI, 20, .inl Hu)), (qy7, .inl (cL, 40, .inr (.inl Tp)))]) [12, 13, 14, 15, 16, 17, 18, 19] rfl
  have hDc := hD.sub (ws' := [(qy, .inr (4, [.ref qy1, .ref qy2, .ref qy3, .ref qy4, .int zM, .ref qy5, .ref qy6, .int zH, .ref qy7, .int zT, .long bg])), (qy1, .inl (cI, 40, .inl Mt)), (qy2, .inl (cI, 40, .inl Ms)), (qy3, .inl (cI, 40, .inl Mf)), (qy4, .inl (cI, 40, .inl Ml)), (qy5, .inl (cI, 20, .inl Ht)), (qy6, .inl (cI, 20, .inl Hu)), (qy7, .inl (cL, 40, .inr (.inl Tp)))]) [12, 13, 14, 15, 16, 17, 18, 19] (by decide) rfl
  have hcc := (ct_X4_tick l G cI cL H.size qy qy1 qy2 qy3 qy4 qy5 qy6 qy7 zM zH zT bg Mt Ms Mf Ml Ht Hu Tp x424 nm hnM hOM nh hnH hOH nt hnT hOT)
  refine rw_calli (wr := [(qx, .inr (3, [.ref qm, .ref qh, .ref qt])), (qm, .inr (1, [.ref qm1, .ref qm2, .ref qm3, .ref qm4, .ref qm5, .int zm])), (qm1, .inl (cI, 40, .inl kt)), (qm2, .inl (cI, 40, .inl ks)), (qm3, .inl (cI, 40, .inl kf)), (qm4, .inl (cI, 40, .inl kl)), (qm5, .inl (cL, 40, .inr (.inl ku))), (qh, .inr (0, [.ref qh1, .ref qh2, .int zh])), (qh1, .inl (cI, 20, .inl gt)), (qh2, .inl (cI, 20, .inl gu)), (qt, .inr (2, [.ref qt1, .int zt])), (qt1, .inl (cL, 40, .inr (.inl kp)))]) (va_runV (As := [.long x424]) (rest := [.int r425]) ⟨hx, hb, hml, hown, hts⟩ hcc (cwV 1 hts gL_law_X4_tick rfl rfl rfl (by decide +kernel) ⟨Nat.le_of_ble_eq_true rfl, Nat.le_of_ble_eq_true rfl⟩) ⟨pre_blind, va_recv hK hPc (ci := 4) (q0 := 0) rfl rfl, pre_pass hK hN hPc hDc⟩ rfl rfl hl.1 rfl (lv_room (Nat.le_of_ble_eq_true rfl)) dL_law_449 ⟨Nat.le_of_ble_eq_true rfl, Nat.le_of_ble_eq_true rfl⟩) hP hD hS hA [12, 13, 14, 15, 16, 17, 18, 19] [0, 1, 2, 3, 4, 5, 6, 7, 8, 9, 10, 11] rfl rfl (by decide) (by decide) (fun r449 u449 H locs hw449 hP hD hS => ?_)
  obtain ⟨bg449, rfl⟩ : ∃ z, z = u449 := ⟨_, rfl⟩
  have hP : va_P G vwCl [(qx, .inr (3, [.ref qm, .ref qh, .ref qt])), (qm, .inr (1, [.ref qm1, .ref qm2, .ref qm3, .ref qm4, .ref qm5, .int zm])), (qm1, .inl (cI, 40, .inl kt)), (qm2, .inl (cI, 40, .inl ks)), (qm3, .inl (cI, 40, .inl kf)), (qm4, .inl (cI, 40, .inl kl)), (qm5, .inl (cL, 40, .inr (.inl ku))), (qh, .inr (0, [.ref qh1, .ref qh2, .int zh])), (qh1, .inl (cI, 20, .inl gt)), (qh2, .inl (cI, 20, .inl gu)), (qt, .inr (2, [.ref qt1, .int zt])), (qt1, .inl (cL, 40, .inr (.inl kp))), (qy, .inr (4, [.ref qy1, .ref qy2, .ref qy3, .ref qy4, .int zM, .ref qy5, .ref qy6, .int zH, .ref qy7, .int zT, .long bg449])), (qy1, .inl (cI, 40, .inl Mt)), (qy2, .inl (cI, 40, .inl Ms)), (qy3, .inl (cI, 40, .inl Mf)), (qy4, .inl (cI, 40, .inl Ml)), (qy5, .inl (cI, 20, .inl Ht)), (qy6, .inl (cI, 20, .inl Hu)), (qy7, .inl (cL, 40, .inr (.inl Tp)))] H := hP.sub [0, 1, 2, 3, 4, 5, 6, 7, 8, 9, 10, 11, 12, 13, 14, 15, 16, 17, 18, 19] rfl
  have hD : va_D A [(qx, .inr (3, [.ref qm, .ref qh, .ref qt])), (qm, .inr (1, [.ref qm1, .ref qm2, .ref qm3, .ref qm4, .ref qm5, .int zm])), (qm1, .inl (cI, 40, .inl kt)), (qm2, .inl (cI, 40, .inl ks)), (qm3, .inl (cI, 40, .inl kf)), (qm4, .inl (cI, 40, .inl kl)), (qm5, .inl (cL, 40, .inr (.inl ku))), (qh, .inr (0, [.ref qh1, .ref qh2, .int zh])), (qh1, .inl (cI, 20, .inl gt)), (qh2, .inl (cI, 20, .inl gu)), (qt, .inr (2, [.ref qt1, .int zt])), (qt1, .inl (cL, 40, .inr (.inl kp))), (qy, .inr (4, [.ref qy1, .ref qy2, .ref qy3, .ref qy4, .int zM, .ref qy5, .ref qy6, .int zH, .ref qy7, .int zT, .long bg449])), (qy1, .inl (cI, 40, .inl Mt)), (qy2, .inl (cI, 40, .inl Ms)), (qy3, .inl (cI, 40, .inl Mf)), (qy4, .inl (cI, 40, .inl Ml)), (qy5, .inl (cI, 20, .inl Ht)), (qy6, .inl (cI, 20, .inl Hu)), (qy7, .inl (cL, 40, .inr (.inl Tp)))] := hD.sub [0, 1, 2, 3, 4, 5, 6, 7, 8, 9, 10, 11, 12, 13, 14, 15, 16, 17, 18, 19] (by decide) rfl
  try dsimp only at hw449
  rw [eP, ← eH1, ← eH2] at hw425
  have mono : ∀ x y : Nat, x ≤ y → Bg (paceF Mt Ms Mf Ml nm) Ht Hu nh x ≤ Bg (paceF Mt Ms Mf Ml nm) Ht Hu nh y := fun x y h => Bg_le (pace_rng hOM) hOH h
  have req : r425.toInt = r449.toInt := by
    rcases hw425 with h | h <;> rcases hw449 with q | q
    · omega
    · omega
    · omega
    · exact lastB_u mono h.2 q.2
  refine lv_icmp_eq (tgt := 721) hx hb dL_law_452 (by decide) (fun c452 => ?_) (fun c452 => ?_)
  · have k452 : (r425.toInt : Int) = r449.toInt := i_eq rfl rfl c452
    exact KK ls _ _ ⟨zm, kt, ks, kf, kl, ku, zh, gt, gu, zt, kp, zM, Mt, Ms, Mf, Ml, zH, Ht, Hu, zT, Tp, bg449, nm, nh, nt, hP, hD, hS, lv_sub hl [0, 1, 2, 3] rfl, ⟨hnm, hOm, hSr, hU, hnh, hOh, hnt, hOt, hnM, hOM, hsm, hnH, eH1, eH2, hnT, eT⟩⟩
  · have k452 : (r425.toInt : Int) ≠ r449.toInt := i_ne rfl rfl c452
    exact absurd (i_ext req) c452

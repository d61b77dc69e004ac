set_option maxHeartbeats 1000000 in
set_option maxRecDepth 100000 in
theorem lc_tickOf {p : Program} {l : Launch} {e : Env} {s : State} {m : MethodId} {below : List Frame} {meth : Method} {c : Code} {b L : Nat} {xs : Nat → Int32} {G : va_G} {cI cL : ClassId} {A : Nat → Prop} {Q : State → Prop} {qx qm qm1 qm2 qm3 qm4 qm5 qh qh1 qh2 qt qt1 qy qy1 qy2 qy3 qy4 qy5 qy6 qy7 : Nat} (C : LC p s m c b L xs G cI cL) (hA : ∀ q : Nat, s.heap.size ≤ q → A q) (hbA : ¬ A b) {v3 : Int32} (hv : 0 ≤ v3.toInt ∧ v3.toInt + 5 ≤ L) {ls : Array Slot} {H : Heap} {locs : List Loc} (hI : Lq G cI cL A s b qx qm qm1 qm2 qm3 qm4 qm5 qh qh1 qh2 qt qt1 qy qy1 qy2 qy3 qy4 qy5 qy6 qy7 v3 ls H locs) (KK : ∀ (ls : Array Slot) (H : Heap) (locs : List Loc), Lq G cI cL A s b qx qm qm1 qm2 qm3 qm4 qm5 qh qh1 qh2 qt qt1 qy qy1 qy2 qy3 qy4 qy5 qy6 qy7 v3 ls H locs → W p l e room_1 s m #[Value.ref b] below meth c H locs 20 545 Q (F0 m 721 ls [])) : W p l e room_1 s m #[Value.ref b] below meth c H locs 20 545 Q (F0 m 544 ls []) := by
  obtain ⟨hx, hb, hml, hown, hts, hX, hbl, hK, hN, hL⟩ := C
  obtain ⟨zm, kt, ks, kf, kl, ku, zh, gt, gu, zt, kp, zM, Mt, Ms, Mf, Ml, zH, Ht, Hu, zT, Tp, bg, nm, nh, nt, hP, hD, hS, hl, hnm, hOm, hSr, hU, hnh, hOh, hnt, hOt, hnM, hOM, hsm, hnH, eH1, eH2, hnT, eT⟩ := hI
  have hOH : okH nh Ht Hu := by rw [eH1, eH2]; exact hOh
  have hOT : okT nt Tp := by rw [eT]; exact hOt
  have eP := pace_same hOm hOM hsm
  have hrv := ti_rng v3
  refine lv_aload_n hx hb dL_law_544 rfl (lv_at hl 1 rfl) ?_
  refine lv_aload_n hx hb dL_law_545 rfl (lv_at hl 0 rfl) ?_
  refine lv_iload_n hx hb dL_law_546 rfl (lv_at hl 3 rfl) ?_
  refine lv_iconst (v := 1) hx hb dL_law_547 (by decide) ?_
  refine lv_iadd hx hb dL_law_548 ?_
  refine lv_topi (fun x548 ex548 => ?_)
  have tx548 : x548.toInt = v3.toInt + 1 := by rw [ex548]; exact ti_add rfl (show ((1 : Int32)).toInt = 1 by decide) (by omega) (by omega)
  refine va_sld hx hb hX hbl hbA hS (vi_in rfl (by omega) (by omega)) dL_law_549 ?_
  refine lv_topi (fun x549 ex549 => ?_)
  refine lv_i2l hx hb dL_law_550 rfl ?_
  refine lv_topl (fun x550 ex550 => ?_)
  have tx550 : x550.toInt = x549.toInt := by rw [ex550]; exact tc_i2l rfl
  refine lv_bipush (v := 32) hx hb dL_law_551 (by decide) ?_
  refine lv_lshl hx hb dL_law_553 rfl ?_
  refine lv_topl (fun x553 ex553 => ?_)
  refine lv_aload_n hx hb dL_law_554 rfl (lv_at hl 0 rfl) ?_
  refine lv_iload_n hx hb dL_law_555 rfl (lv_at hl 3 rfl) ?_
  refine lv_iconst (v := 2) hx hb dL_law_556 (by decide) ?_
  refine lv_iadd hx hb dL_law_557 ?_
  refine lv_topi (fun x557 ex557 => ?_)
  have tx557 : x557.toInt = v3.toInt + 2 := by rw [ex557]; exact ti_add rfl (show ((2 : Int32)).toInt = 2 by decide) (by omega) (by omega)
  refine va_sld hx hb hX hbl hbA hS (vi_in rfl (by omega) (by omega)) dL_law_558 ?_
  refine lv_topi (fun x558 ex558 => ?_)
  refine lv_i2l hx hb dL_law_559 rfl ?_
  refine lv_topl (fun x559 ex559 => ?_)
  have tx559 : x559.toInt = x558.toInt := by rw [ex559]; exact tc_i2l rfl
  refine lv_ldc2 (v := 4294967295) hx hb hown (hts (.constantLong RL 54 4294967295) (by decide +kernel)) dL_law_560 ?_
  refine lv_land hx hb dL_law_563 ?_
  refine lv_topl (fun x563 ex563 => ?_)
  refine lv_lor hx hb dL_law_564 ?_
  refine lv_topl (fun x564 ex564 => ?_)
  refine lv_aload_n hx hb dL_law_565 rfl (lv_at hl 0 rfl) ?_
  refine lv_iload_n hx hb dL_law_566 rfl (lv_at hl 3 rfl) ?_
  refine lv_iconst (v := 3) hx hb dL_law_567 (by decide) ?_
  refine lv_iadd hx hb dL_law_568 ?_
  refine lv_topi (fun x568 ex568 => ?_)
  have tx568 : x568.toInt = v3.toInt + 3 := by rw [ex568]; exact ti_add rfl (show ((3 : Int32)).toInt = 3 by decide) (by omega) (by omega)
  refine va_sld hx hb hX hbl hbA hS (vi_in rfl (by omega) (by omega)) dL_law_569 ?_
  refine lv_topi (fun x569 ex569 => ?_)
  have hPc := hP.sub (ws' := [(qx, .inr (3, [.ref qm, .ref qh, .ref qt])), (qm, .inr (1, [.ref qm1, .ref qm2, .ref qm3, .ref qm4, .ref qm5, .int zm])), (qm1, .inl (cI, 40, .inl kt)), (qm2, .inl (cI, 40, .inl ks)), (qm3, .inl (cI, 40, .inl kf)), (qm4, .inl (cI, 40, .inl kl)), (qm5, .inl (cL, 40, .inr (.inl ku))), (qh, .inr (0, [.ref qh1, .ref qh2, .int zh])), (qh1, .inl (cI, 20, .inl gt)), (qh2, .inl (cI, 20, .inl gu)), (qt, .inr (2, [.ref qt1, .int zt])), (qt1, .inl (cL, 40, .inr (.inl kp)))]) [0, 1, 2, 3, 4, 5, 6, 7, 8, 9, 10, 11] rfl
  have hDc := hD.sub (ws' := [(qx, .inr (3, [.ref qm, .ref qh, .ref qt])), (qm, .inr (1, [.ref qm1, .ref qm2, .ref qm3, .ref qm4, .ref qm5, .int zm])), (qm1, .inl (cI, 40, .inl kt)), (qm2, .inl (cI, 40, .inl ks)), (qm3, .inl (cI, 40, .inl kf)), (qm4, .inl (cI, 40, .inl kl)), (qm5, .inl (cL, 40, .inr (.inl ku))), (qh, .inr (0, [.ref qh1, .ref qh2, .int zh])), (qh1, .inl (cI, 20, .inl gt)), (qh2, .inl (cI, 20, .inl gu)), (qt, .inr (2, [.ref qt1, .int zt])), (qt1, .inl (cL, 40, .inr (.inl kp)))]) [0, 1, 2, 3, 4, 5, 6, 7, 8, 9, 10, 11] (by decide) rfl
  have hcc := (ct_X3_tickOf l G cI cL H.size qx qm qm1 qm2 qm3 qm4 qm5 zm kt ks kf kl ku qh qh1 qh2 zh gt gu qt qt1 zt kp x564 x569 nm hnm hOm hSr hU nh hnh hOh nt hnt hOt)
  refine ro_calli (va_runV (As := [.long x564, .int x569]) (rest := []) ⟨hx, hb, hml, hown, hts⟩ hcc (cwV 2 hts gL_law_X3_tickOf rfl rfl rfl (by decide +kernel) ⟨Nat.le_of_ble_eq_true rfl, Nat.le_of_ble_eq_true rfl⟩) ⟨pre_blind, va_recv hK hPc (ci := 3) (q0 := 0) rfl rfl, pre_pass hK hN hPc hDc⟩ rfl rfl hl.1 rfl (lv_room (Nat.le_of_ble_eq_true rfl)) dL_law_570 ⟨Nat.le_of_ble_eq_true rfl, Nat.le_of_ble_eq_true rfl⟩) hP hD hS hA [0, 1, 2, 3, 4, 5, 6, 7, 8, 9, 10, 11] rfl (fun r570 H locs hw570 hP hS => ?_)
  try dsimp only at hw570
  refine lv_aload_n hx hb dL_law_573 rfl (lv_at hl 2 rfl) ?_
  refine lv_aload_n hx hb dL_law_574 rfl (lv_at hl 0 rfl) ?_
  refine lv_iload_n hx hb dL_law_575 rfl (lv_at hl 3 rfl) ?_
  refine lv_iconst (v := 1) hx hb dL_law_576 (by decide) ?_
  refine lv_iadd hx hb dL_law_577 ?_
  refine lv_topi (fun x577 ex577 => ?_)
  have tx577 : x577.toInt = v3.toInt + 1 := by rw [ex577]; exact ti_add rfl (show ((1 : Int32)).toInt = 1 by decide) (by omega) (by omega)
  refine va_sld hx hb hX hbl hbA hS (vi_in rfl (by omega) (by omega)) dL_law_578 ?_
  refine lv_topi (fun x578 ex578 => ?_)
  obtain rfl : x549 = x578 := by rw [ex549, ex578, i_ext (x := x577) (y := x548) (by omega)]
  refine lv_i2l hx hb dL_law_579 rfl ?_
  refine lv_topl (fun x579 ex579 => ?_)
  have tx579 : x579.toInt = x549.toInt := by rw [ex579]; exact tc_i2l rfl
  refine lv_bipush (v := 32) hx hb dL_law_580 (by decide) ?_
  refine lv_lshl hx hb dL_law_582 rfl ?_
  refine lv_topl (fun x582 ex582 => ?_)
  refine lv_aload_n hx hb dL_law_583 rfl (lv_at hl 0 rfl) ?_
  refine lv_iload_n hx hb dL_law_584 rfl (lv_at hl 3 rfl) ?_
  refine lv_iconst (v := 2) hx hb dL_law_585 (by decide) ?_
  refine lv_iadd hx hb dL_law_586 ?_
  refine lv_topi (fun x586 ex586 => ?_)
  have tx586 : x586.toInt = v3.toInt + 2 := by rw [ex586]; exact ti_add rfl (show ((2 : Int32)).toInt = 2 by decide) (by omega) (by omega)
  refine va_sld hx hb hX hbl hbA hS (vi_in rfl (by omega) (by omega)) dL_law_587 ?_
  refine lv_topi (fun x587 ex587 => ?_)
  obtain rfl : x558 = x587 := by rw [ex558, ex587, i_ext (x := x586) (y := x557) (by omega)]
  refine lv_i2l hx hb dL_law_588 rfl ?_
  refine lv_topl (fun x588 ex588 => ?_)
  have tx588 : x588.toInt = x558.toInt := by rw [ex588]; exact tc_i2l rfl
  refine lv_ldc2 (v := 4294967295) hx hb hown (hts (.constantLong RL 54 4294967295) (by decide +kernel)) dL_law_589 ?_
  refine lv_land hx hb dL_law_592 ?_
  refine lv_topl (fun x592 ex592 => ?_)
  refine lv_lor hx hb dL_law_593 ?_
  refine lv_topl (fun x593 ex593 => ?_)
  obtain rfl : x564 = x593 := by rw [ex564, ex593, ex553, ex582, ex550, ex579, ex563, ex592, ex559, ex588]
  refine lv_aload_n hx hb dL_law_594 rfl (lv_at hl 0 rfl) ?_
  refine lv_iload_n hx hb dL_law_595 rfl (lv_at hl 3 rfl) ?_
  refine lv_iconst (v := 3) hx hb dL_law_596 (by decide) ?_
  refine lv_iadd hx hb dL_law_597 ?_
  refine lv_topi (fun x597 ex597 => ?_)
  have tx597 : x597.toInt = v3.toInt + 3 := by rw [ex597]; exact ti_add rfl (show ((3 : Int32)).toInt = 3 by decide) (by omega) (by omega)
  refine va_sld hx hb hX hbl hbA hS (vi_in rfl (by omega) (by omega)) dL_law_598 ?_
  refine lv_topi (fun x598 ex598 => ?_)
  obtain rfl : x569 = x598 := by rw [ex569, ex598, i_ext (x := x597) (y := x568) (by omega)]
  have hPc := hP.sub (ws' := [(qy, .inr (4, [.ref qy1, .ref qy2, .ref qy3, .ref qy4, .int zM, .ref qy5, .ref qy6, .int zH, .ref qy7, .int zT, .long bg])), (qy1, .inl (cI, 40, .inl Mt)), (qy2, .inl (cI, 40, .inl Ms)), (qy3, .inl (cI, 40, .inl Mf)), (qy4, .inl (cI, 40, .inl Ml)), (qy5, .inl (cI, 20, .inl Ht)), (qy6, .inl (cI, 20, .inl Hu)), (qy7, .inl (cL, 40, .inr (.inl Tp)))]) [12, 13, 14, 15, 16, 17, 18, 19] rfl
  have hDc := hD.sub (ws' := [(qy, .inr (4, [.ref qy1, .ref qy2, .ref qy3, .ref qy4, .int zM, .ref qy5, .ref qy6, .int zH, .ref qy7, .int zT, .long bg])), (qy1, .inl (cI, 40, .inl Mt)), (qy2, .inl (cI, 40, .inl Ms)), (qy3, .inl (cI, 40, .inl Mf)), (qy4, .inl (cI, 40, .inl Ml)), (qy5, .inl (cI, 20, .inl Ht)), (qy6, .inl (cI, 20, .inl Hu)), (qy7, .inl (cL, 40, .inr (.inl Tp)))]) [12, 13, 14, 15, 16, 17, 18, 19] (by decide) rfl
  have hcc := (ct_X4_tickOf l G cI cL H.size qy qy1 qy2 qy3 qy4 qy5 qy6 qy7 zM zH zT bg Mt Ms Mf Ml Ht Hu Tp x564 x569 nm hnM hOM nh hnH hOH nt hnT hOT)
  refine rw_calli (wr := [(qx, .inr (3, [.ref qm, .ref qh, .ref qt])), (qm, .inr (1, [.ref qm1, .ref qm2, .ref qm3, .ref qm4, .ref qm5, .int zm])), (qm1, .inl (cI, 40, .inl kt)), (qm2, .inl (cI, 40, .inl ks)), (qm3, .inl (cI, 40, .inl kf)), (qm4, .inl (cI, 40, .inl kl)), (qm5, .inl (cL, 40, .inr (.inl ku))), (qh, .inr (0, [.ref qh1, .ref qh2, .int zh])), (qh1, .inl (cI, 20, .inl gt)), (qh2, .inl (cI, 20, .inl gu)), (qt, .inr (2, [.ref qt1, .int zt])), (qt1, .inl (cL, 40, .inr (.inl kp)))]) (va_runV (As := [.long x564, .int x569]) (rest := [.int r570]) ⟨hx, hb, hml, hown, hts⟩ hcc (cwV 2 hts gL_law_X4_tickOf rfl rfl rfl (by decide +kernel) ⟨Nat.le_of_ble_eq_true rfl, Nat.le_of_ble_eq_true rfl⟩) ⟨pre_blind, va_recv hK hPc (ci := 4) (q0 := 0) rfl rfl, pre_pass hK hN hPc hDc⟩ rfl rfl hl.1 rfl (lv_room (Nat.le_of_ble_eq_true rfl)) dL_law_599 ⟨Nat.le_of_ble_eq_true rfl, Nat.le_of_ble_eq_true rfl⟩) hP hD hS hA [12, 13, 14, 15, 16, 17, 18, 19] [0, 1, 2, 3, 4, 5, 6, 7, 8, 9, 10, 11] rfl rfl (by decide) (by decide) (fun r599 u599 H locs hw599 hP hD hS => ?_)
  obtain ⟨bg599, rfl⟩ : ∃ z, z = u599 := ⟨_, rfl⟩
  have hP : va_P G vwCl [(qx, .inr (3, [.ref qm, .ref qh, .ref qt])), (qm, .inr (1, [.ref qm1, .ref qm2, .ref qm3, .ref qm4, .ref qm5, .int zm])), (qm1, .inl (cI, 40, .inl kt)), (qm2, .inl (cI, 40, .inl ks)), (qm3, .inl (cI, 40, .inl kf)), (qm4, .inl (cI, 40, .inl kl)), (qm5, .inl (cL, 40, .inr (.inl ku))), (qh, .inr (0, [.ref qh1, .ref qh2, .int zh])), (qh1, .inl (cI, 20, .inl gt)), (qh2, .inl (cI, 20, .inl gu)), (qt, .inr (2, [.ref qt1, .int zt])), (qt1, .inl (cL, 40, .inr (.inl kp))), (qy, .inr (4, [.ref qy1, .ref qy2, .ref qy3, .ref qy4, .int zM, .ref qy5, .ref qy6, .int zH, .ref qy7, .int zT, .long bg599])), (qy1, .inl (cI, 40, .inl Mt)), (qy2, .inl (cI, 40, .inl Ms)), (qy3, .inl (cI, 40, .inl Mf)), (qy4, .inl (cI, 40, .inl Ml)), (qy5, .inl (cI, 20, .inl Ht)), (qy6, .inl (cI, 20, .inl Hu)), (qy7, .inl (cL, 40, .inr (.inl Tp)))] H := hP.sub [0, 1, 2, 3, 4, 5, 6, 7, 8, 9, 10, 11, 12, 13, 14, 15, 16, 17, 18, 19] rfl
  have hD : va_D A [(qx, .inr (3, [.ref qm, .ref qh, .ref qt])), (qm, .inr (1, [.ref qm1, .ref qm2, .ref qm3, .ref qm4, .ref qm5, .int zm])), (qm1, .inl (cI, 40, .inl kt)), (qm2, .inl (cI, 40, .inl ks)), (qm3, .inl (cI, 40, .inl kf)), (qm4, .inl (cI, 40, .inl kl)), (qm5, .inl (cL, 40, .inr (.inl ku))), (qh, .inr (0, [.ref qh1, .ref qh2, .int zh])), (qh1, .inl (cI, 20, .inl gt)), (qh2, .inl (cI, 20, .inl gu)), (qt, .inr (2, [.ref qt1, .int zt])), (qt1, .inl (cL, 40, .inr (.inl kp))), (qy, .inr (4, [.ref qy1, .ref qy2, .ref qy3, .ref qy4, .int zM, .ref qy5, .ref qy6, .int zH, .ref qy7, .int zT, .long bg599])), (qy1, .inl (cI, 40, .inl Mt)), (qy2, .inl (cI, 40, .inl Ms)), (qy3, .inl (cI, 40, .inl Mf)), (qy4, .inl (cI, 40, .inl Ml)), (qy5, .inl (cI, 20, .inl Ht)), (qy6, .inl (cI, 20, .inl Hu)), (qy7, .inl (cL, 40, .inr (.inl Tp)))] := hD.sub [0, 1, 2, 3, 4, 5, 6, 7, 8, 9, 10, 11, 12, 13, 14, 15, 16, 17, 18, 19] (by decide) rfl
  try dsimp only at hw599
  rw [eP, ← eH1, ← eH2] at hw570
  have req : r570.toInt = r599.toInt := by
    rcases hw570 with h | h <;> rcases hw599 with q | q
    · omega
    · omega
    · omega
    · exact tkOf_u h.2 q.2
  refine lv_icmp_eq (tgt := 721) hx hb dL_law_602 (by decide) (fun c602 => ?_) (fun c602 => ?_)
  · have k602 : (r570.toInt : Int) = r599.toInt := i_eq rfl rfl c602
    exact KK ls _ _ ⟨zm, kt, ks, kf, kl, ku, zh, gt, gu, zt, kp, zM, Mt, Ms, Mf, Ml, zH, Ht, Hu, zT, Tp, bg599, nm, nh, nt, hP, hD, hS, lv_sub hl [0, 1, 2, 3] rfl, ⟨hnm, hOm, hSr, hU, hnh, hOh, hnt, hOt, hnM, hOM, hsm, hnH, eH1, eH2, hnT, eT⟩⟩
  · have k602 : (r570.toInt : Int) ≠ r599.toInt := i_ne rfl rfl c602
    exact absurd (i_ext req) c602

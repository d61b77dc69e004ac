set_option maxHeartbeats 1000000 in
set_option maxRecDepth 100000 in
theorem ct_X3_frame (l : Launch) (G : va_G) (cI cL : ClassId) (sz : Nat) (qx : Nat) (qm : Nat) (qm1 : Nat) (qm2 : Nat) (qm3 : Nat) (qm4 : Nat) (qm5 : Nat) (zm : Int32) (kt : Nat → Int32) (ks : Nat → Int32) (kf : Nat → Int32) (kl : Nat → Int32) (ku : Nat → Int64) (qh : Nat) (qh1 : Nat) (qh2 : Nat) (zh : Int32) (gt : Nat → Int32) (gu : Nat → Int32) (qt : Nat) (qt1 : Nat) (zt : Int32) (kp : Nat → Int64) (p0 : Int32) (p1 : Int32) (nm : Nat) (hnm : zm.toInt = nm) (hOm : okM nm kt ks kf kl) (hSr : srt nm kt) (hU : okU nm kt ks kf kl ku) (nh : Nat) (hnh : zh.toInt = nh) (hOh : okH nh gt gu) (nt : Nat) (hnt : zt.toInt = nt) (hOt : okT nt kp) : Met l yX3_frame wsX3_frame ({ frames := 6, cells := 0, slots := 0, locals := 151 }) (va_Pc [.ref qx, .int p0, .int p1] (pre0 G cI cL [(qx, .inr (3, [.ref qm, .ref qh, .ref qt])), (qm, .inr (1, [.ref qm1, .ref qm2, .ref qm3, .ref qm4, .ref qm5, .int zm])), (qm1, .inl (cI, 40, .inl kt)), (qm2, .inl (cI, 40, .inl ks)), (qm3, .inl (cI, 40, .inl kf)), (qm4, .inl (cI, 40, .inl kl)), (qm5, .inl (cL, 40, .inr (.inl ku))), (qh, .inr (0, [.ref qh1, .ref qh2, .int zh])), (qh1, .inl (cI, 20, .inl gt)), (qh2, .inl (cI, 20, .inl gu)), (qt, .inr (2, [.ref qt1, .int zt])), (qt1, .inl (cL, 40, .inr (.inl kp)))] sz)) (va_Ql (fun (r : Int64) (u : Unit) => ((p0.toInt < 0 ∨ 1000000 < p0.toInt ∨ p1.toInt < 1 ∨ 192000 < p1.toInt) ∧ r.toInt = -2) ∨ ((0 ≤ p0.toInt ∧ p0.toInt ≤ 1000000 ∧ 1 ≤ p1.toInt ∧ p1.toInt ≤ 192000) ∧ r.toInt = Bg (paceF kt ks kf kl nm) gt gu nh p0.toInt.toNat * p1.toInt / 1000000)) (fun (u : Unit) t => va_P G vwCl [(qx, .inr (3, [.ref qm, .ref qh, .ref qt])), (qm, .inr (1, [.ref qm1, .ref qm2, .ref qm3, .ref qm4, .ref qm5, .int zm])), (qm1, .inl (cI, 40, .inl kt)), (qm2, .inl (cI, 40, .inl ks)), (qm3, .inl (cI, 40, .inl kf)), (qm4, .inl (cI, 40, .inl kl)), (qm5, .inl (cL, 40, .inr (.inl ku))), (qh, .inr (0, [.ref qh1, .ref qh2, .int zh])), (qh1, .inl (cI, 20, .inl gt)), (qh2, .inl (cI, 20, .inl gu)), (qt, .inr (2, [.ref qt1, .int zt])), (qt1, .inl (cL, 40, .inr (.inl kp)))] t.heap ∧ va_D (va_A [(qx, .inr (3, [.ref qm, .ref qh, .ref qt])), (qm, .inr (1, [.ref qm1, .ref qm2, .ref qm3, .ref qm4, .ref qm5, .int zm])), (qm1, .inl (cI, 40, .inl kt)), (qm2, .inl (cI, 40, .inl ks)), (qm3, .inl (cI, 40, .inl kf)), (qm4, .inl (cI, 40, .inl kl)), (qm5, .inl (cL, 40, .inr (.inl ku))), (qh, .inr (0, [.ref qh1, .ref qh2, .int zh])), (qh1, .inl (cI, 20, .inl gt)), (qh2, .inl (cI, 20, .inl gu)), (qt, .inr (2, [.ref qt1, .int zt])), (qt1, .inl (cL, 40, .inr (.inl kp)))] sz) [(qx, .inr (3, [.ref qm, .ref qh, .ref qt])), (qm, .inr (1, [.ref qm1, .ref qm2, .ref qm3, .ref qm4, .ref qm5, .int zm])), (qm1, .inl (cI, 40, .inl kt)), (qm2, .inl (cI, 40, .inl ks)), (qm3, .inl (cI, 40, .inl kf)), (qm4, .inl (cI, 40, .inl kl)), (qm5, .inl (cL, 40, .inr (.inl ku))), (qh, .inr (0, [.ref qh1, .ref qh2, .int zh])), (qh1, .inl (cI, 20, .inl gt)), (qh2, .inl (cI, 20, .inl gu)), (qt, .inr (2, [.ref qt1, .int zt])), (qt1, .inl (cL, 40, .inr (.inl kp)))]) (va_A [(qx, .inr (3, [.ref qm, .ref qh, .ref qt])), (qm, .inr (1, [.ref qm1, .ref qm2, .ref qm3, .ref qm4, .ref qm5, .int zm])), (qm1, .inl (cI, 40, .inl kt)), (qm2, .inl (cI, 40, .inl ks)), (qm3, .inl (cI, 40, .inl kf)), (qm4, .inl (cI, 40, .inl kl)), (qm5, .inl (cL, 40, .inr (.inl ku))), (qh, .inr (0, [.ref qh1, .ref qh2, .int zh])), (qh1, .inl (cI, 20, .inl gt)), (qh2, .inl (cI, 20, .inl gu)), (qt, .inr (2, [.ref qt1, .int zt])), (qt1, .inl (cL, 40, .inr (.inl kp)))] sz)) 0 0 (va_A [(qx, .inr (3, [.ref qm, .ref qh, .ref qt])), (qm, .inr (1, [.ref qm1, .ref qm2, .ref qm3, .ref qm4, .ref qm5, .int zm])), (qm1, .inl (cI, 40, .inl kt)), (qm2, .inl (cI, 40, .inl ks)), (qm3, .inl (cI, 40, .inl kf)), (qm4, .inl (cI, 40, .inl kl)), (qm5, .inl (cL, 40, .inr (.inl ku))), (qh, .inr (0, [.ref qh1, .ref qh2, .int zh])), (qh1, .inl (cI, 20, .inl gt)), (qh2, .inl (cI, 20, .inl gu)), (qt, .inr (2, [.ref qt1, .int zt])), (qt1, .inl (cL, 40, .inr (.inl kp)))] sz) := by
  refine Met.ofW (cc := cX3_frame) (maxL := 3) (ret := (some .long)) (by decide) rfl ?_
  intro p e s m args below meth c s₁ B hml hv
  obtain ⟨rfl, hsz, hP, hK, hD0, hN⟩ := hv
  have hx := B.exec
  have hb := B.bytes
  have hr := B.returns
  have hts := atoms_spec (ws := wsX3_frame) B.pre
  have hown : s.vm.findClass RX3 = some m.cls := findClass_of_methodNamed B.named
  have hlocks := B.notSynchronized
  subst hsz
  have hD := hD0.self (sz := s.heap.size)
  generalize hAe : va_A [(qx, .inr (3, [.ref qm, .ref qh, .ref qt])), (qm, .inr (1, [.ref qm1, .ref qm2, .ref qm3, .ref qm4, .ref qm5, .int zm])), (qm1, .inl (cI, 40, .inl kt)), (qm2, .inl (cI, 40, .inl ks)), (qm3, .inl (cI, 40, .inl kf)), (qm4, .inl (cI, 40, .inl kl)), (qm5, .inl (cL, 40, .inr (.inl ku))), (qh, .inr (0, [.ref qh1, .ref qh2, .int zh])), (qh1, .inl (cI, 20, .inl gt)), (qh2, .inl (cI, 20, .inl gu)), (qt, .inr (2, [.ref qt1, .int zt])), (qt1, .inl (cL, 40, .inr (.inl kp)))] s.heap.size = A at hD ⊢
  have hA : ∀ q : Nat, s.heap.size ≤ q → A q := fun q h => by rw [← hAe]; exact Or.inr h
  have hP : va_P G vwCl [(qx, .inr (3, [.ref qm, .ref qh, .ref qt])), (qm, .inr (1, [.ref qm1, .ref qm2, .ref qm3, .ref qm4, .ref qm5, .int zm])), (qm1, .inl (cI, 40, .inl kt)), (qm2, .inl (cI, 40, .inl ks)), (qm3, .inl (cI, 40, .inl kf)), (qm4, .inl (cI, 40, .inl kl)), (qm5, .inl (cL, 40, .inr (.inl ku))), (qh, .inr (0, [.ref qh1, .ref qh2, .int zh])), (qh1, .inl (cI, 20, .inl gt)), (qh2, .inl (cI, 20, .inl gu)), (qt, .inr (2, [.ref qt1, .int zt])), (qt1, .inl (cL, 40, .inr (.inl kp)))] s.heap := hP
  have hl := lv_entry ([.ref qx, .int p0, .int p1]) (n := 3) (Nat.le_of_ble_eq_true rfl)
  rw [lg_entry_eq]
  generalize (lg_sl ([.ref qx, .int p0, .int p1]) ++ List.replicate (3 - (lg_sl ([.ref qx, .int p0, .int p1])).length) Slot.unset).toArray = ls at hl ⊢
  have hl : lv_has ls 3 [(0, .ref qx), (1, .int p0), (2, .int p1)] := hl
  have zi0 : ((0 : Int32)).toInt = 0 := by decide
  have zi1 : ((1 : Int32)).toInt = 1 := by decide
  have zi192000 : ((192000 : Int32)).toInt = 192000 := by decide
  have zi1000000 : ((1000000 : Int32)).toInt = 1000000 := by decide
  have zlm2 : ((-2 : Int64)).toInt = -2 := by decide
  refine w_h (A := A) hP (fun H locs hP hS => ?_)
  have hn40 := hOm.1
  have hrg := hOm.2.1
  have zz0 : ((0 : Int32)).toInt = 0 := by decide
  refine lv_iload_n hx hb dX3_frame_0 rfl (lv_at hl 1 rfl) ?_
  refine lv_iconst (v := 0) hx hb dX3_frame_1 (by decide) ?_
  refine lv_ldc (v := 1000000) hx hb hown (hts (.constant RX3 35 1000000) (by decide +kernel)) dX3_frame_2 ?_
  have hPc := hP.sub (ws' := ([] : va_W)) [] rfl
  have hDc := hD.sub (ws' := ([] : va_W)) [] (by decide) rfl
  have hcc := (ct_X3_isWithin l G cI cL H.size p0 0 1000000)
  refine ro_calli (va_runS (As := [.int p0, .int 0, .int 1000000]) (rest := []) ⟨hx, hb, hml, hown, hts⟩ hcc (va_cwS 3 hts gX3_frame_X3_isWithin rfl rfl rfl (by decide +kernel) ⟨Nat.le_of_ble_eq_true rfl, Nat.le_of_ble_eq_true rfl⟩) ⟨pre_blind, pre_pass hK hN hPc hDc⟩ rfl rfl hl.1 rfl (lv_room (Nat.le_of_ble_eq_true rfl)) dX3_frame_4 ⟨Nat.le_of_ble_eq_true rfl, Nat.le_of_ble_eq_true rfl⟩) hP hD hS hA [] rfl (fun r4 H locs hw4 hP hS => ?_)
  try dsimp only at hw4
  refine lv_if_eq (tgt := 20) hx hb dX3_frame_7 (by decide) (fun c7 => ?_) (fun c7 => ?_)
  · have k7 : (r4.toInt : Int) = 0 := i_eq rfl (show ((0 : Int32)).toInt = 0 by decide) c7
    refine lv_ldc2 (v := (-2)) hx hb hown (hts (.constantLong RX3 72 (-2)) (by decide +kernel)) dX3_frame_20 ?_
    exact W.lret (v := (-2)) hx hb hr (fun t ht hW => ⟨⟨(-2), (), rfl, (by (try dsimp only); exact (Or.inl ⟨by omega, by omega⟩)), by rw [ht]; exact hP, hD⟩, hS.F ht⟩) hS.2.2 dX3_frame_23
  · have k7 : (r4.toInt : Int) ≠ 0 := i_ne rfl (show ((0 : Int32)).toInt = 0 by decide) c7
    refine lv_iload_n hx hb dX3_frame_10 rfl (lv_at hl 2 rfl) ?_
    refine lv_iconst (v := 1) hx hb dX3_frame_11 (by decide) ?_
    refine lv_ldc (v := 192000) hx hb hown (hts (.constant RX3 82 192000) (by decide +kernel)) dX3_frame_12 ?_
    have hPc := hP.sub (ws' := ([] : va_W)) [] rfl
    have hDc := hD.sub (ws' := ([] : va_W)) [] (by decide) rfl
    have hcc := (ct_X3_isWithin l G cI cL H.size p1 1 192000)
    refine ro_calli (va_runS (As := [.int p1, .int 1, .int 192000]) (rest := []) ⟨hx, hb, hml, hown, hts⟩ hcc (va_cwS 3 hts gX3_frame_X3_isWithin rfl rfl rfl (by decide +kernel) ⟨Nat.le_of_ble_eq_true rfl, Nat.le_of_ble_eq_true rfl⟩) ⟨pre_blind, pre_pass hK hN hPc hDc⟩ rfl rfl hl.1 rfl (lv_room (Nat.le_of_ble_eq_true rfl)) dX3_frame_14 ⟨Nat.le_of_ble_eq_true rfl, Nat.le_of_ble_eq_true rfl⟩) hP hD hS hA [] rfl (fun r14 H locs hw14 hP hS => ?_)
    try dsimp only at hw14
    refine lv_if_ne (tgt := 24) hx hb dX3_frame_17 (by decide) (fun c17 => ?_) (fun c17 => ?_)
    · have k17 : (r14.toInt : Int) ≠ 0 := i_ne rfl (show ((0 : Int32)).toInt = 0 by decide) c17
      refine lv_aload_n hx hb dX3_frame_24 rfl (lv_at hl 0 rfl) ?_
      refine lv_iload_n hx hb dX3_frame_25 rfl (lv_at hl 1 rfl) ?_
      refine lv_iload_n hx hb dX3_frame_26 rfl (lv_at hl 2 rfl) ?_
      have hPc := hP.sub (ws' := [(qx, .inr (3, [.ref qm, .ref qh, .ref qt])), (qm, .inr (1, [.ref qm1, .ref qm2, .ref qm3, .ref qm4, .ref qm5, .int zm])), (qm1, .inl (cI, 40, .inl kt)), (qm2, .inl (cI, 40, .inl ks)), (qm3, .inl (cI, 40, .inl kf)), (qm4, .inl (cI, 40, .inl kl)), (qm5, .inl (cL, 40, .inr (.inl ku))), (qh, .inr (0, [.ref qh1, .ref qh2, .int zh])), (qh1, .inl (cI, 20, .inl gt)), (qh2, .inl (cI, 20, .inl gu)), (qt, .inr (2, [.ref qt1, .int zt])), (qt1, .inl (cL, 40, .inr (.inl kp)))]) [0, 1, 2, 3, 4, 5, 6, 7, 8, 9, 10, 11] rfl
      have hDc := hD.sub (ws' := [(qx, .inr (3, [.ref qm, .ref qh, .ref qt])), (qm, .inr (1, [.ref qm1, .ref qm2, .ref qm3, .ref qm4, .ref qm5, .int zm])), (qm1, .inl (cI, 40, .inl kt)), (qm2, .inl (cI, 40, .inl ks)), (qm3, .inl (cI, 40, .inl kf)), (qm4, .inl (cI, 40, .inl kl)), (qm5, .inl (cL, 40, .inr (.inl ku))), (qh, .inr (0, [.ref qh1, .ref qh2, .int zh])), (qh1, .inl (cI, 20, .inl gt)), (qh2, .inl (cI, 20, .inl gu)), (qt, .inr (2, [.ref qt1, .int zt])), (qt1, .inl (cL, 40, .inr (.inl kp)))]) [0, 1, 2, 3, 4, 5, 6, 7, 8, 9, 10, 11] (by decide) rfl
      have hcc := (ct_X3_framesAt l G cI cL H.size qx qm qm1 qm2 qm3 qm4 qm5 zm kt ks kf kl ku qh qh1 qh2 zh gt gu qt qt1 zt kp p0 p1 nm hnm hOm hSr hU nh hnh hOh nt hnt hOt (by omega) (by omega))
      refine ro_calll (va_runV (As := [.int p0, .int p1]) (rest := []) ⟨hx, hb, hml, hown, hts⟩ hcc (cwV 2 hts gX3_frame_X3_framesAt rfl rfl rfl (by decide +kernel) ⟨Nat.le_of_ble_eq_true rfl, Nat.le_of_ble_eq_true rfl⟩) ⟨pre_blind, va_recv hK hPc (ci := 3) (q0 := 0) rfl rfl, pre_pass hK hN hPc hDc⟩ rfl rfl hl.1 rfl (lv_room (Nat.le_of_ble_eq_true rfl)) dX3_frame_27 ⟨Nat.le_of_ble_eq_true rfl, Nat.le_of_ble_eq_true rfl⟩) hP hD hS hA [0, 1, 2, 3, 4, 5, 6, 7, 8, 9, 10, 11] rfl (fun r27 H locs hw27 hP hS => ?_)
      try dsimp only at hw27
      exact W.lret (v := r27) hx hb hr (fun t ht hW => ⟨⟨r27, (), rfl, (by (try dsimp only); exact (Or.inr ⟨by omega, hw27⟩)), by rw [ht]; exact hP, hD⟩, hS.F ht⟩) hS.2.2 dX3_frame_30
    · have k17 : (r14.toInt : Int) = 0 := i_eq rfl (show ((0 : Int32)).toInt = 0 by decide) c17
      refine lv_ldc2 (v := (-2)) hx hb hown (hts (.constantLong RX3 72 (-2)) (by decide +kernel)) dX3_frame_20 ?_
      exact W.lret (v := (-2)) hx hb hr (fun t ht hW => ⟨⟨(-2), (), rfl, (by (try dsimp only); exact (Or.inl ⟨by omega, by omega⟩)), by rw [ht]; exact hP, hD⟩, hS.F ht⟩) hS.2.2 dX3_frame_23

set_option maxHeartbeats 1000000 in
set_option maxRecDepth 100000 in
theorem ct_X3_step (l : Launch) (G : va_G) (cI cL : ClassId) (sz : Nat) (qx : Nat) (qm : Nat) (qm1 : Nat) (qm2 : Nat) (qm3 : Nat) (qm4 : Nat) (qm5 : Nat) (zm : Int32) (kt : Nat → Int32) (ks : Nat → Int32) (kf : Nat → Int32) (kl : Nat → Int32) (ku : Nat → Int64) (qh : Nat) (qh1 : Nat) (qh2 : Nat) (zh : Int32) (gt : Nat → Int32) (gu : Nat → Int32) (qt : Nat) (qt1 : Nat) (zt : Int32) (kp : Nat → Int64) (p0 : Int32) (p1 : Int32) (nm : Nat) (hnm : zm.toInt = nm) (hOm : okM nm kt ks kf kl) (hSr : srt nm kt) (hU : okU nm kt ks kf kl ku) (nh : Nat) (hnh : zh.toInt = nh) (hOh : okH nh gt gu) (nt : Nat) (hnt : zt.toInt = nt) (hOt : okT nt kp) : Met l yX3_step wsX3_step ({ frames := 6, cells := 0, slots := 0, locals := 156 }) (va_Pc [.ref qx, .int p0, .int p1] (pre0 G cI cL [(qx, .inr (3, [.ref qm, .ref qh, .ref qt])), (qm, .inr (1, [.ref qm1, .ref qm2, .ref qm3, .ref qm4, .ref qm5, .int zm])), (qm1, .inl (cI, 40, .inl kt)), (qm2, .inl (cI, 40, .inl ks)), (qm3, .inl (cI, 40, .inl kf)), (qm4, .inl (cI, 40, .inl kl)), (qm5, .inl (cL, 40, .inr (.inl ku))), (qh, .inr (0, [.ref qh1, .ref qh2, .int zh])), (qh1, .inl (cI, 20, .inl gt)), (qh2, .inl (cI, 20, .inl gu)), (qt, .inr (2, [.ref qt1, .int zt])), (qt1, .inl (cL, 40, .inr (.inl kp)))] sz)) (va_Qi (fun (r : Int32) (u : Int32 × (Nat → Int32) × (Nat → Int32) × (Nat → Int32) × (Nat → Int32) × (Nat → Int64)) => ∃ n' : Nat, u.1.toInt = n' ∧ okM n' u.2.1 u.2.2.1 u.2.2.2.1 u.2.2.2.2.1 ∧ srt n' u.2.1 ∧ okU n' u.2.1 u.2.2.1 u.2.2.2.1 u.2.2.2.2.1 u.2.2.2.2.2 ∧ cStep nm kt ks kf kl p0 p1 r.toInt n' u.2.1 u.2.2.1 u.2.2.2.1 u.2.2.2.2.1) (fun (u : Int32 × (Nat → Int32) × (Nat → Int32) × (Nat → Int32) × (Nat → Int32) × (Nat → Int64)) t => va_P G vwCl [(qx, .inr (3, [.ref qm, .ref qh, .ref qt])), (qm, .inr (1, [.ref qm1, .ref qm2, .ref qm3, .ref qm4, .ref qm5, .int u.1])), (qm1, .inl (cI, 40, .inl (u.2.1))), (qm2, .inl (cI, 40, .inl (u.2.2.1))), (qm3, .inl (cI, 40, .inl (u.2.2.2.1))), (qm4, .inl (cI, 40, .inl (u.2.2.2.2.1))), (qm5, .inl (cL, 40, .inr (.inl (u.2.2.2.2.2)))), (qh, .inr (0, [.ref qh1, .ref qh2, .int zh])), (qh1, .inl (cI, 20, .inl gt)), (qh2, .inl (cI, 20, .inl gu)), (qt, .inr (2, [.ref qt1, .int zt])), (qt1, .inl (cL, 40, .inr (.inl kp)))] t.heap ∧ va_D (va_A [(qx, .inr (3, [.ref qm, .ref qh, .ref qt])), (qm, .inr (1, [.ref qm1, .ref qm2, .ref qm3, .ref qm4, .ref qm5, .int zm])), (qm1, .inl (cI, 40, .inl kt)), (qm2, .inl (cI, 40, .inl ks)), (qm3, .inl (cI, 40, .inl kf)), (qm4, .inl (cI, 40, .inl kl)), (qm5, .inl (cL, 40, .inr (.inl ku))), (qh, .inr (0, [.ref qh1, .ref qh2, .int zh])), (qh1, .inl (cI, 20, .inl gt)), (qh2, .inl (cI, 20, .inl gu)), (qt, .inr (2, [.ref qt1, .int zt])), (qt1, .inl (cL, 40, .inr (.inl kp)))] sz) [(qx, .inr (3, [.ref qm, .ref qh, .ref qt])), (qm, .inr (1, [.ref qm1, .ref qm2, .ref qm3, .ref qm4, .ref qm5, .int u.1])), (qm1, .inl (cI, 40, .inl (u.2.1))), (qm2, .inl (cI, 40, .inl (u.2.2.1))), (qm3, .inl (cI, 40, .inl (u.2.2.2.1))), (qm4, .inl (cI, 40, .inl (u.2.2.2.2.1))), (qm5, .inl (cL, 40, .inr (.inl (u.2.2.2.2.2)))), (qh, .inr (0, [.ref qh1, .ref qh2, .int zh])), (qh1, .inl (cI, 20, .inl gt)), (qh2, .inl (cI, 20, .inl gu)), (qt, .inr (2, [.ref qt1, .int zt])), (qt1, .inl (cL, 40, .inr (.inl kp)))]) (va_A [(qx, .inr (3, [.ref qm, .ref qh, .ref qt])), (qm, .inr (1, [.ref qm1, .ref qm2, .ref qm3, .ref qm4, .ref qm5, .int zm])), (qm1, .inl (cI, 40, .inl kt)), (qm2, .inl (cI, 40, .inl ks)), (qm3, .inl (cI, 40, .inl kf)), (qm4, .inl (cI, 40, .inl kl)), (qm5, .inl (cL, 40, .inr (.inl ku))), (qh, .inr (0, [.ref qh1, .ref qh2, .int zh])), (qh1, .inl (cI, 20, .inl gt)), (qh2, .inl (cI, 20, .inl gu)), (qt, .inr (2, [.ref qt1, .int zt])), (qt1, .inl (cL, 40, .inr (.inl kp)))] sz)) 0 0 (va_A [(qx, .inr (3, [.ref qm, .ref qh, .ref qt])), (qm, .inr (1, [.ref qm1, .ref qm2, .ref qm3, .ref qm4, .ref qm5, .int zm])), (qm1, .inl (cI, 40, .inl kt)), (qm2, .inl (cI, 40, .inl ks)), (qm3, .inl (cI, 40, .inl kf)), (qm4, .inl (cI, 40, .inl kl)), (qm5, .inl (cL, 40, .inr (.inl ku))), (qh, .inr (0, [.ref qh1, .ref qh2, .int zh])), (qh1, .inl (cI, 20, .inl gt)), (qh2, .inl (cI, 20, .inl gu)), (qt, .inr (2, [.ref qt1, .int zt])), (qt1, .inl (cL, 40, .inr (.inl kp)))] sz) := by
  refine Met.ofW (cc := cX3_step) (maxL := 3) (ret := (some .int)) (by decide) rfl ?_
  intro p e s m args below meth c s₁ B hml hv
  obtain ⟨rfl, hsz, hP, hK, hD0, hN⟩ := hv
  have hx := B.exec
  have hb := B.bytes
  have hr := B.returns
  have hts := atoms_spec (ws := wsX3_step) B.pre
  have hown : s.vm.findClass RX3 = some m.cls := findClass_of_methodNamed B.named
  have hlocks := B.notSynchronized
  subst hsz
  have hD := hD0.self (sz := s.heap.size)
  generalize hAe : va_A [(qx, .inr (3, [.ref qm, .ref qh, .ref qt])), (qm, .inr (1, [.ref qm1, .ref qm2, .ref qm3, .ref qm4, .ref qm5, .int zm])), (qm1, .inl (cI, 40, .inl kt)), (qm2, .inl (cI, 40, .inl ks)), (qm3, .inl (cI, 40, .inl kf)), (qm4, .inl (cI, 40, .inl kl)), (qm5, .inl (cL, 40, .inr (.inl ku))), (qh, .inr (0, [.ref qh1, .ref qh2, .int zh])), (qh1, .inl (cI, 20, .inl gt)), (qh2, .inl (cI, 20, .inl gu)), (qt, .inr (2, [.ref qt1, .int zt])), (qt1, .inl (cL, 40, .inr (.inl kp)))] s.heap.size = A at hD ⊢
  have hA : ∀ q : Nat, s.heap.size ≤ q → A q := fun q h => by rw [← hAe]; exact Or.inr h
  have hP : va_P G vwCl [(qx, .inr (3, [.ref qm, .ref qh, .ref qt])), (qm, .inr (1, [.ref qm1, .ref qm2, .ref qm3, .ref qm4, .ref qm5, .int zm])), (qm1, .inl (cI, 40, .inl kt)), (qm2, .inl (cI, 40, .inl ks)), (qm3, .inl (cI, 40, .inl kf)), (qm4, .inl (cI, 40, .inl kl)), (qm5, .inl (cL, 40, .inr (.inl ku))), (qh, .inr (0, [.ref qh1, .ref qh2, .int zh])), (qh1, .inl (cI, 20, .inl gt)), (qh2, .inl (cI, 20, .inl gu)), (qt, .inr (2, [.ref qt1, .int zt])), (qt1, .inl (cL, 40, .inr (.inl kp)))] s.heap := hP
  have hl := lv_entry ([.ref qx, .int p0, .int p1]) (n := 3) (Nat.le_of_ble_eq_true rfl)
  rw [lg_entry_eq]
  generalize (lg_sl ([.ref qx, .int p0, .int p1]) ++ List.replicate (3 - (lg_sl ([.ref qx, .int p0, .int p1])).length) Slot.unset).toArray = ls at hl ⊢
  have hl : lv_has ls 3 [(0, .ref qx), (1, .int p0), (2, .int p1)] := hl
  have hf10 := hts (.fieldLink RX3 10 "TempoMaps" "marks" "LTempoMaps$Marks;") (by decide +kernel)
  have hiX3 : ∀ w ∈ wsX30, w ∈ wsX3_step := by decide +kernel
  have zim3 : ((-3 : Int32)).toInt = -3 := by decide
  have zim2 : ((-2 : Int32)).toInt = -2 := by decide
  have zi0 : ((0 : Int32)).toInt = 0 := by decide
  have zi1 : ((1 : Int32)).toInt = 1 := by decide
  have zi999999 : ((999999 : Int32)).toInt = 999999 := by decide
  have zi1000000 : ((1000000 : Int32)).toInt = 1000000 := by decide
  refine w_h (A := A) hP (fun H locs hP hS => ?_)
  have hn40 := hOm.1
  have hrg := hOm.2.1
  have zz0 : ((0 : Int32)).toInt = 0 := by decide
  refine lv_iload_n hx hb dX3_step_0 rfl (lv_at hl 1 rfl) ?_
  refine lv_iconst (v := 0) hx hb dX3_step_1 (by decide) ?_
  refine lv_ldc (v := 999999) hx hb hown (hts (.constant RX3 30 999999) (by decide +kernel)) dX3_step_2 ?_
  have hPc := hP.sub (ws' := ([] : va_W)) [] rfl
  have hDc := hD.sub (ws' := ([] : va_W)) [] (by decide) rfl
  have hcc := (ct_X3_isWithin l G cI cL H.size p0 0 999999)
  refine ro_calli (va_runS (As := [.int p0, .int 0, .int 999999]) (rest := []) ⟨hx, hb, hml, hown, hts⟩ hcc (va_cwS 3 hts gX3_step_X3_isWithin rfl rfl rfl (by decide +kernel) ⟨Nat.le_of_ble_eq_true rfl, Nat.le_of_ble_eq_true rfl⟩) ⟨pre_blind, pre_pass hK hN hPc hDc⟩ rfl rfl hl.1 rfl (lv_room (Nat.le_of_ble_eq_true rfl)) dX3_step_4 ⟨Nat.le_of_ble_eq_true rfl, Nat.le_of_ble_eq_true rfl⟩) hP hD hS hA [] rfl (fun r4 H locs hw4 hP hS => ?_)
  try dsimp only at hw4
  refine lv_if_eq (tgt := 20) hx hb dX3_step_7 (by decide) (fun c7 => ?_) (fun c7 => ?_)
  · have k7 : (r4.toInt : Int) = 0 := i_eq rfl (show ((0 : Int32)).toInt = 0 by decide) c7
    refine lv_bipush (v := (-2)) hx hb dX3_step_20 (by decide) ?_
    exact W.iret (v := (-2)) hx hb hr (fun t ht hW => ⟨⟨(-2), (zm, kt, ks, kf, kl, ku), rfl, (by (try dsimp only); exact ⟨nm, hnm, hOm, hSr, hU, Or.inl ⟨by omega, by omega, ⟨rfl, rfl, rfl, rfl, rfl⟩⟩⟩), by rw [ht]; exact hP, hD⟩, hS.F ht⟩) hS.2.2 dX3_step_22
  · have k7 : (r4.toInt : Int) ≠ 0 := i_ne rfl (show ((0 : Int32)).toInt = 0 by decide) c7
    refine lv_iload_n hx hb dX3_step_10 rfl (lv_at hl 2 rfl) ?_
    refine lv_iconst (v := 1) hx hb dX3_step_11 (by decide) ?_
    refine lv_ldc (v := 1000000) hx hb hown (hts (.constant RX3 35 1000000) (by decide +kernel)) dX3_step_12 ?_
    have hPc := hP.sub (ws' := ([] : va_W)) [] rfl
    have hDc := hD.sub (ws' := ([] : va_W)) [] (by decide) rfl
    have hcc := (ct_X3_isWithin l G cI cL H.size p1 1 1000000)
    refine ro_calli (va_runS (As := [.int p1, .int 1, .int 1000000]) (rest := []) ⟨hx, hb, hml, hown, hts⟩ hcc (va_cwS 3 hts gX3_step_X3_isWithin rfl rfl rfl (by decide +kernel) ⟨Nat.le_of_ble_eq_true rfl, Nat.le_of_ble_eq_true rfl⟩) ⟨pre_blind, pre_pass hK hN hPc hDc⟩ rfl rfl hl.1 rfl (lv_room (Nat.le_of_ble_eq_true rfl)) dX3_step_14 ⟨Nat.le_of_ble_eq_true rfl, Nat.le_of_ble_eq_true rfl⟩) hP hD hS hA [] rfl (fun r14 H locs hw14 hP hS => ?_)
    try dsimp only at hw14
    refine lv_if_ne (tgt := 23) hx hb dX3_step_17 (by decide) (fun c17 => ?_) (fun c17 => ?_)
    · have k17 : (r14.toInt : Int) ≠ 0 := i_ne rfl (show ((0 : Int32)).toInt = 0 by decide) c17
      refine lv_aload_n hx hb dX3_step_23 rfl (lv_at hl 0 rfl) ?_
      refine va_get (D := G) (ci := 3) (v := .ref qm) (C := RX3) (T := TX3) (N := 3) hx hb hts hiX3 hown hK hP 0 rfl rfl 0 (by decide) hf10 (fun _ h9 => h9) rfl dX3_step_24 ?_
      refine lv_iload_n hx hb dX3_step_27 rfl (lv_at hl 1 rfl) ?_
      have hPc := hP.sub (ws' := [(qm, .inr (1, [.ref qm1, .ref qm2, .ref qm3, .ref qm4, .ref qm5, .int zm])), (qm1, .inl (cI, 40, .inl kt)), (qm2, .inl (cI, 40, .inl ks)), (qm3, .inl (cI, 40, .inl kf)), (qm4, .inl (cI, 40, .inl kl)), (qm5, .inl (cL, 40, .inr (.inl ku)))]) [1, 2, 3, 4, 5, 6] rfl
      have hDc := hD.sub (ws' := [(qm, .inr (1, [.ref qm1, .ref qm2, .ref qm3, .ref qm4, .ref qm5, .int zm])), (qm1, .inl (cI, 40, .inl kt)), (qm2, .inl (cI, 40, .inl ks)), (qm3, .inl (cI, 40, .inl kf)), (qm4, .inl (cI, 40, .inl kl)), (qm5, .inl (cL, 40, .inr (.inl ku)))]) [1, 2, 3, 4, 5, 6] (by decide) rfl
      have hcc := (ct_X1_isInsideSlope l G cI cL H.size qm qm1 qm2 qm3 qm4 qm5 zm kt ks kf kl ku p0 nm hnm hOm hSr (by omega))
      refine ro_calli (va_runV (As := [.int p0]) (rest := []) ⟨hx, hb, hml, hown, hts⟩ hcc (cwV 1 hts gX3_step_X1_isInsideSlope rfl rfl rfl (by decide +kernel) ⟨Nat.le_of_ble_eq_true rfl, Nat.le_of_ble_eq_true rfl⟩) ⟨pre_blind, va_recv hK hPc (ci := 1) (q0 := 0) rfl rfl, pre_pass hK hN hPc hDc⟩ rfl rfl hl.1 rfl (lv_room (Nat.le_of_ble_eq_true rfl)) dX3_step_28 ⟨Nat.le_of_ble_eq_true rfl, Nat.le_of_ble_eq_true rfl⟩) hP hD hS hA [1, 2, 3, 4, 5, 6] rfl (fun r28 H locs hw28 hP hS => ?_)
      try dsimp only at hw28
      refine lv_if_eq (tgt := 37) hx hb dX3_step_31 (by decide) (fun c31 => ?_) (fun c31 => ?_)
      · have k31 : (r28.toInt : Int) = 0 := i_eq rfl (show ((0 : Int32)).toInt = 0 by decide) c31
        have ni : ¬ insS nm kt ks p0.toInt := by rcases hw28 with h | h; omega; exact h.2
        refine lv_aload_n hx hb dX3_step_37 rfl (lv_at hl 0 rfl) ?_
        refine va_get (D := G) (ci := 3) (v := .ref qm) (C := RX3) (T := TX3) (N := 3) hx hb hts hiX3 hown hK hP 0 rfl rfl 0 (by decide) hf10 (fun _ h9 => h9) rfl dX3_step_38 ?_
        refine lv_iload_n hx hb dX3_step_41 rfl (lv_at hl 1 rfl) ?_
        refine lv_iload_n hx hb dX3_step_42 rfl (lv_at hl 2 rfl) ?_
        have hPc := hP.sub (ws' := [(qm, .inr (1, [.ref qm1, .ref qm2, .ref qm3, .ref qm4, .ref qm5, .int zm])), (qm1, .inl (cI, 40, .inl kt)), (qm2, .inl (cI, 40, .inl ks)), (qm3, .inl (cI, 40, .inl kf)), (qm4, .inl (cI, 40, .inl kl)), (qm5, .inl (cL, 40, .inr (.inl ku)))]) [1, 2, 3, 4, 5, 6] rfl
        have hDc := hD.sub (ws' := [(qm, .inr (1, [.ref qm1, .ref qm2, .ref qm3, .ref qm4, .ref qm5, .int zm])), (qm1, .inl (cI, 40, .inl kt)), (qm2, .inl (cI, 40, .inl ks)), (qm3, .inl (cI, 40, .inl kf)), (qm4, .inl (cI, 40, .inl kl)), (qm5, .inl (cL, 40, .inr (.inl ku)))]) [1, 2, 3, 4, 5, 6] (by decide) rfl
        have hcc := (ct_X1_putStep l G cI cL H.size qm qm1 qm2 qm3 qm4 qm5 zm kt ks kf kl ku p0 p1 nm hnm hOm hSr hU (by omega) (by omega) ni)
        refine rw_calli (wr := [(qx, .inr (3, [.ref qm, .ref qh, .ref qt])), (qh, .inr (0, [.ref qh1, .ref qh2, .int zh])), (qh1, .inl (cI, 20, .inl gt)), (qh2, .inl (cI, 20, .inl gu)), (qt, .inr (2, [.ref qt1, .int zt])), (qt1, .inl (cL, 40, .inr (.inl kp)))]) (va_runV (As := [.int p0, .int p1]) (rest := []) ⟨hx, hb, hml, hown, hts⟩ hcc (cwV 2 hts gX3_step_X1_putStep rfl rfl rfl (by decide +kernel) ⟨Nat.le_of_ble_eq_true rfl, Nat.le_of_ble_eq_true rfl⟩) ⟨pre_blind, va_recv hK hPc (ci := 1) (q0 := 0) rfl rfl, pre_pass hK hN hPc hDc⟩ rfl rfl hl.1 rfl (lv_room (Nat.le_of_ble_eq_true rfl)) dX3_step_43 ⟨Nat.le_of_ble_eq_true rfl, Nat.le_of_ble_eq_true rfl⟩) hP hD hS hA [1, 2, 3, 4, 5, 6] [0, 7, 8, 9, 10, 11] rfl rfl (by decide) (by decide) (fun r43 u43 H locs hw43 hP hD hS => ?_)
        obtain ⟨zm43, kt43, ks43, kf43, kl43, ku43⟩ := u43
        have hP : va_P G vwCl [(qx, .inr (3, [.ref qm, .ref qh, .ref qt])), (qm, .inr (1, [.ref qm1, .ref qm2, .ref qm3, .ref qm4, .ref qm5, .int zm43])), (qm1, .inl (cI, 40, .inl kt43)), (qm2, .inl (cI, 40, .inl ks43)), (qm3, .inl (cI, 40, .inl kf43)), (qm4, .inl (cI, 40, .inl kl43)), (qm5, .inl (cL, 40, .inr (.inl ku43))), (qh, .inr (0, [.ref qh1, .ref qh2, .int zh])), (qh1, .inl (cI, 20, .inl gt)), (qh2, .inl (cI, 20, .inl gu)), (qt, .inr (2, [.ref qt1, .int zt])), (qt1, .inl (cL, 40, .inr (.inl kp)))] H := hP.sub [0, 6, 7, 8, 9, 10, 11, 1, 2, 3, 4, 5] rfl
        have hD : va_D A [(qx, .inr (3, [.ref qm, .ref qh, .ref qt])), (qm, .inr (1, [.ref qm1, .ref qm2, .ref qm3, .ref qm4, .ref qm5, .int zm43])), (qm1, .inl (cI, 40, .inl kt43)), (qm2, .inl (cI, 40, .inl ks43)), (qm3, .inl (cI, 40, .inl kf43)), (qm4, .inl (cI, 40, .inl kl43)), (qm5, .inl (cL, 40, .inr (.inl ku43))), (qh, .inr (0, [.ref qh1, .ref qh2, .int zh])), (qh1, .inl (cI, 20, .inl gt)), (qh2, .inl (cI, 20, .inl gu)), (qt, .inr (2, [.ref qt1, .int zt])), (qt1, .inl (cL, 40, .inr (.inl kp)))] := hD.sub [0, 6, 7, 8, 9, 10, 11, 1, 2, 3, 4, 5] (by decide) rfl
        try dsimp only at hw43
        obtain ⟨n43, a43, b43, c43, d43, e43⟩ := hw43
        exact W.iret (v := r43) hx hb hr (fun t ht hW => ⟨⟨r43, (zm43, kt43, ks43, kf43, kl43, ku43), rfl, (by (try dsimp only); exact ⟨n43, a43, c43, d43, e43, Or.inr ⟨by omega, Or.inr ⟨ni, (fun ⟨k, h1, h2, h3⟩ => by omega), b43⟩⟩⟩), by rw [ht]; exact hP, hD⟩, hS.F ht⟩) hS.2.2 dX3_step_46
      · have k31 : (r28.toInt : Int) ≠ 0 := i_ne rfl (show ((0 : Int32)).toInt = 0 by decide) c31
        have ii : insS nm kt ks p0.toInt := by rcases hw28 with h | h; exact h.2; omega
        refine lv_bipush (v := (-3)) hx hb dX3_step_34 (by decide) ?_
        exact W.iret (v := (-3)) hx hb hr (fun t ht hW => ⟨⟨(-3), (zm, kt, ks, kf, kl, ku), rfl, (by (try dsimp only); exact ⟨nm, hnm, hOm, hSr, hU, Or.inr ⟨by omega, Or.inl ⟨Or.inl ii, by omega, ⟨rfl, rfl, rfl, rfl, rfl⟩⟩⟩⟩), by rw [ht]; exact hP, hD⟩, hS.F ht⟩) hS.2.2 dX3_step_36
    · have k17 : (r14.toInt : Int) = 0 := i_eq rfl (show ((0 : Int32)).toInt = 0 by decide) c17
      refine lv_bipush (v := (-2)) hx hb dX3_step_20 (by decide) ?_
      exact W.iret (v := (-2)) hx hb hr (fun t ht hW => ⟨⟨(-2), (zm, kt, ks, kf, kl, ku), rfl, (by (try dsimp only); exact ⟨nm, hnm, hOm, hSr, hU, Or.inl ⟨by omega, by omega, ⟨rfl, rfl, rfl, rfl, rfl⟩⟩⟩), by rw [ht]; exact hP, hD⟩, hS.F ht⟩) hS.2.2 dX3_step_22
set_option maxHeartbeats 1000000 in
set_option maxRecDepth 100000 in
theorem ct_X3_slope (l : Launch) (G : va_G) (cI cL : ClassId) (sz : Nat) (qx : Nat) (qm : Nat) (qm1 : Nat) (qm2 : Nat) (qm3 : Nat) (qm4 : Nat) (qm5 : Nat) (zm : Int32) (kt : Nat → Int32) (ks : Nat → Int32) (kf : Nat → Int32) (kl : Nat → Int32) (ku : Nat → Int64) (qh : Nat) (qh1 : Nat) (qh2 : Nat) (zh : Int32) (gt : Nat → Int32) (gu : Nat → Int32) (qt : Nat) (qt1 : Nat) (zt : Int32) (kp : Nat → Int64) (p0 : Int32) (p1 : Int32) (p2 : Int32) (p3 : Int32) (nm : Nat) (hnm : zm.toInt = nm) (hOm : okM nm kt ks kf kl) (hSr : srt nm kt) (hU : okU nm kt ks kf kl ku) (nh : Nat) (hnh : zh.toInt = nh) (hOh : okH nh gt gu) (nt : Nat) (hnt : zt.toInt = nt) (hOt : okT nt kp) : Met l yX3_slope wsX3_slope ({ frames := 5, cells := 0, slots := 0, locals := 134 }) (va_Pc [.ref qx, .int p0, .int p1, .int p2, .int p3] (pre0 G cI cL [(qx, .inr (3, [.ref qm, .ref qh, .ref qt])), (qm, .inr (1, [.ref qm1, .ref qm2, .ref qm3, .ref qm4, .ref qm5, .int zm])), (qm1, .inl (cI, 40, .inl kt)), (qm2, .inl (cI, 40, .inl ks)), (qm3, .inl (cI, 40, .inl kf)), (qm4, .inl (cI, 40, .inl kl)), (qm5, .inl (cL, 40, .inr (.inl ku))), (qh, .inr (0, [.ref qh1, .ref qh2, .int zh])), (qh1, .inl (cI, 20, .inl gt)), (qh2, .inl (cI, 20, .inl gu)), (qt, .inr (2, [.ref qt1, .int zt])), (qt1, .inl (cL, 40, .inr (.inl kp)))] sz)) (va_Qi (fun (r : Int32) (u : Int32 × (Nat → Int32) × (Nat → Int32) × (Nat → Int32) × (Nat → Int32) × (Nat → Int64)) => ∃ n' : Nat, u.1.toInt = n' ∧ okM n' u.2.1 u.2.2.1 u.2.2.2.1 u.2.2.2.2.1 ∧ srt n' u.2.1 ∧ okU n' u.2.1 u.2.2.1 u.2.2.2.1 u.2.2.2.2.1 u.2.2.2.2.2 ∧ cSlope nm kt ks kf kl p0 p1 p2 p3 r.toInt n' u.2.1 u.2.2.1 u.2.2.2.1 u.2.2.2.2.1) (fun (u : Int32 × (Nat → Int32) × (Nat → Int32) × (Nat → Int32) × (Nat → Int32) × (Nat → Int64)) t => va_P G vwCl [(qx, .inr (3, [.ref qm, .ref qh, .ref qt])), (qm, .inr (1, [.ref qm1, .ref qm2, .ref qm3, .ref qm4, .ref qm5, .int u.1])), (qm1, .inl (cI, 40, .inl (u.2.1))), (qm2, .inl (cI, 40, .inl (u.2.2.1))), (qm3, .inl (cI, 40, .inl (u.2.2.2.1))), (qm4, .inl (cI, 40, .inl (u.2.2.2.2.1))), (qm5, .inl (cL, 40, .inr (.inl (u.2.2.2.2.2)))), (qh, .inr (0, [.ref qh1, .ref qh2, .int zh])), (qh1, .inl (cI, 20, .inl gt)), (qh2, .inl (cI, 20, .inl gu)), (qt, .inr (2, [.ref qt1, .int zt])), (qt1, .inl (cL, 40, .inr (.inl kp)))] t.heap ∧ va_D (va_A [(qx, .inr (3, [.ref qm, .ref qh, .ref qt])), (qm, .inr (1, [.ref qm1, .ref qm2, .ref qm3, .ref qm4, .ref qm5, .int zm])), (qm1, .inl (cI, 40, .inl kt)), (qm2, .inl (cI, 40, .inl ks)), (qm3, .inl (cI, 40, .inl kf)), (qm4, .inl (cI, 40, .inl kl)), (qm5, .inl (cL, 40, .inr (.inl ku))), (qh, .inr (0, [.ref qh1, .ref qh2, .int zh])), (qh1, .inl (cI, 20, .inl gt)), (qh2, .inl (cI, 20, .inl gu)), (qt, .inr (2, [.ref qt1, .int zt])), (qt1, .inl (cL, 40, .inr (.inl kp)))] sz) [(qx, .inr (3, [.ref qm, .ref qh, .ref qt])), (qm, .inr (1, [.ref qm1, .ref qm2, .ref qm3, .ref qm4, .ref qm5, .int u.1])), (qm1, .inl (cI, 40, .inl (u.2.1))), (qm2, .inl (cI, 40, .inl (u.2.2.1))), (qm3, .inl (cI, 40, .inl (u.2.2.2.1))), (qm4, .inl (cI, 40, .inl (u.2.2.2.2.1))), (qm5, .inl (cL, 40, .inr (.inl (u.2.2.2.2.2)))), (qh, .inr (0, [.ref qh1, .ref qh2, .int zh])), (qh1, .inl (cI, 20, .inl gt)), (qh2, .inl (cI, 20, .inl gu)), (qt, .inr (2, [.ref qt1, .int zt])), (qt1, .inl (cL, 40, .inr (.inl kp)))]) (va_A [(qx, .inr (3, [.ref qm, .ref qh, .ref qt])), (qm, .inr (1, [.ref qm1, .ref qm2, .ref qm3, .ref qm4, .ref qm5, .int zm])), (qm1, .inl (cI, 40, .inl kt)), (qm2, .inl (cI, 40, .inl ks)), (qm3, .inl (cI, 40, .inl kf)), (qm4, .inl (cI, 40, .inl kl)), (qm5, .inl (cL, 40, .inr (.inl ku))), (qh, .inr (0, [.ref qh1, .ref qh2, .int zh])), (qh1, .inl (cI, 20, .inl gt)), (qh2, .inl (cI, 20, .inl gu)), (qt, .inr (2, [.ref qt1, .int zt])), (qt1, .inl (cL, 40, .inr (.inl kp)))] sz)) 0 0 (va_A [(qx, .inr (3, [.ref qm, .ref qh, .ref qt])), (qm, .inr (1, [.ref qm1, .ref qm2, .ref qm3, .ref qm4, .ref qm5, .int zm])), (qm1, .inl (cI, 40, .inl kt)), (qm2, .inl (cI, 40, .inl ks)), (qm3, .inl (cI, 40, .inl kf)), (qm4, .inl (cI, 40, .inl kl)), (qm5, .inl (cL, 40, .inr (.inl ku))), (qh, .inr (0, [.ref qh1, .ref qh2, .int zh])), (qh1, .inl (cI, 20, .inl gt)), (qh2, .inl (cI, 20, .inl gu)), (qt, .inr (2, [.ref qt1, .int zt])), (qt1, .inl (cL, 40, .inr (.inl kp)))] sz) := by
  refine Met.ofW (cc := cX3_slope) (maxL := 5) (ret := (some .int)) (by decide) rfl ?_
  intro p e s m args below meth c s₁ B hml hv
  obtain ⟨rfl, hsz, hP, hK, hD0, hN⟩ := hv
  have hx := B.exec
  have hb := B.bytes
  have hr := B.returns
  have hts := atoms_spec (ws := wsX3_slope) B.pre
  have hown : s.vm.findClass RX3 = some m.cls := findClass_of_methodNamed B.named
  have hlocks := B.notSynchronized
  subst hsz
  have hD := hD0.self (sz := s.heap.size)
  generalize hAe : va_A [(qx, .inr (3, [.ref qm, .ref qh, .ref qt])), (qm, .inr (1, [.ref qm1, .ref qm2, .ref qm3, .ref qm4, .ref qm5, .int zm])), (qm1, .inl (cI, 40, .inl kt)), (qm2, .inl (cI, 40, .inl ks)), (qm3, .inl (cI, 40, .inl kf)), (qm4, .inl (cI, 40, .inl kl)), (qm5, .inl (cL, 40, .inr (.inl ku))), (qh, .inr (0, [.ref qh1, .ref qh2, .int zh])), (qh1, .inl (cI, 20, .inl gt)), (qh2, .inl (cI, 20, .inl gu)), (qt, .inr (2, [.ref qt1, .int zt])), (qt1, .inl (cL, 40, .inr (.inl kp)))] s.heap.size = A at hD ⊢
  have hA : ∀ q : Nat, s.heap.size ≤ q → A q := fun q h => by rw [← hAe]; exact Or.inr h
  have hP : va_P G vwCl [(qx, .inr (3, [.ref qm, .ref qh, .ref qt])), (qm, .inr (1, [.ref qm1, .ref qm2, .ref qm3, .ref qm4, .ref qm5, .int zm])), (qm1, .inl (cI, 40, .inl kt)), (qm2, .inl (cI, 40, .inl ks)), (qm3, .inl (cI, 40, .inl kf)), (qm4, .inl (cI, 40, .inl kl)), (qm5, .inl (cL, 40, .inr (.inl ku))), (qh, .inr (0, [.ref qh1, .ref qh2, .int zh])), (qh1, .inl (cI, 20, .inl gt)), (qh2, .inl (cI, 20, .inl gu)), (qt, .inr (2, [.ref qt1, .int zt])), (qt1, .inl (cL, 40, .inr (.inl kp)))] s.heap := hP
  have hl := lv_entry ([.ref qx, .int p0, .int p1, .int p2, .int p3]) (n := 5) (Nat.le_of_ble_eq_true rfl)
  rw [lg_entry_eq]
  generalize (lg_sl ([.ref qx, .int p0, .int p1, .int p2, .int p3]) ++ List.replicate (5 - (lg_sl ([.ref qx, .int p0, .int p1, .int p2, .int p3])).length) Slot.unset).toArray = ls at hl ⊢
  have hl : lv_has ls 5 [(0, .ref qx), (1, .int p0), (2, .int p1), (3, .int p2), (4, .int p3)] := hl
  have hf10 := hts (.fieldLink RX3 10 "TempoMaps" "marks" "LTempoMaps$Marks;") (by decide +kernel)
  have hiX3 : ∀ w ∈ wsX30, w ∈ wsX3_slope := by decide +kernel
  have zim3 : ((-3 : Int32)).toInt = -3 := by decide
  have zim2 : ((-2 : Int32)).toInt = -2 := by decide
  have zi0 : ((0 : Int32)).toInt = 0 := by decide
  have zi1 : ((1 : Int32)).toInt = 1 := by decide
  have zi2000 : ((2000 : Int32)).toInt = 2000 := by decide
  have zi999999 : ((999999 : Int32)).toInt = 999999 := by decide
  have zi1000000 : ((1000000 : Int32)).toInt = 1000000 := by decide
  refine w_h (A := A) hP (fun H locs hP hS => ?_)
  have hn40 := hOm.1
  have hrg := hOm.2.1
  have zz0 : ((0 : Int32)).toInt = 0 := by decide
  refine lv_iload_n hx hb dX3_slope_0 rfl (lv_at hl 1 rfl) ?_
  refine lv_iconst (v := 0) hx hb dX3_slope_1 (by decide) ?_
  refine lv_ldc (v := 999999) hx hb hown (hts (.constant RX3 30 999999) (by decide +kernel)) dX3_slope_2 ?_
  have hPc := hP.sub (ws' := ([] : va_W)) [] rfl
  have hDc := hD.sub (ws' := ([] : va_W)) [] (by decide) rfl
  have hcc := (ct_X3_isWithin l G cI cL H.size p0 0 999999)
  refine ro_calli (va_runS (As := [.int p0, .int 0, .int 999999]) (rest := []) ⟨hx, hb, hml, hown, hts⟩ hcc (va_cwS 3 hts gX3_slope_X3_isWithin rfl rfl rfl (by decide +kernel) ⟨Nat.le_of_ble_eq_true rfl, Nat.le_of_ble_eq_true rfl⟩) ⟨pre_blind, pre_pass hK hN hPc hDc⟩ rfl rfl hl.1 rfl (lv_room (Nat.le_of_ble_eq_true rfl)) dX3_slope_4 ⟨Nat.le_of_ble_eq_true rfl, Nat.le_of_ble_eq_true rfl⟩) hP hD hS hA [] rfl (fun r4 H locs hw4 hP hS => ?_)
  try dsimp only at hw4
  refine lv_if_eq (tgt := 50) hx hb dX3_slope_7 (by decide) (fun c7 => ?_) (fun c7 => ?_)
  · have k7 : (r4.toInt : Int) = 0 := i_eq rfl (show ((0 : Int32)).toInt = 0 by decide) c7
    refine lv_bipush (v := (-2)) hx hb dX3_slope_50 (by decide) ?_
    exact W.iret (v := (-2)) hx hb hr (fun t ht hW => ⟨⟨(-2), (zm, kt, ks, kf, kl, ku), rfl, (by (try dsimp only); exact ⟨nm, hnm, hOm, hSr, hU, Or.inl ⟨by omega, by omega, ⟨rfl, rfl, rfl, rfl, rfl⟩⟩⟩), by rw [ht]; exact hP, hD⟩, hS.F ht⟩) hS.2.2 dX3_slope_52
  · have k7 : (r4.toInt : Int) ≠ 0 := i_ne rfl (show ((0 : Int32)).toInt = 0 by decide) c7
    refine lv_iload_n hx hb dX3_slope_10 rfl (lv_at hl 2 rfl) ?_
    refine lv_iconst (v := 1) hx hb dX3_slope_11 (by decide) ?_
    refine lv_sipush (v := 2000) hx hb dX3_slope_12 (by decide) ?_
    have hPc := hP.sub (ws' := ([] : va_W)) [] rfl
    have hDc := hD.sub (ws' := ([] : va_W)) [] (by decide) rfl
    have hcc := (ct_X3_isWithin l G cI cL H.size p1 1 2000)
    refine ro_calli (va_runS (As := [.int p1, .int 1, .int 2000]) (rest := []) ⟨hx, hb, hml, hown, hts⟩ hcc (va_cwS 3 hts gX3_slope_X3_isWithin rfl rfl rfl (by decide +kernel) ⟨Nat.le_of_ble_eq_true rfl, Nat.le_of_ble_eq_true rfl⟩) ⟨pre_blind, pre_pass hK hN hPc hDc⟩ rfl rfl hl.1 rfl (lv_room (Nat.le_of_ble_eq_true rfl)) dX3_slope_15 ⟨Nat.le_of_ble_eq_true rfl, Nat.le_of_ble_eq_true rfl⟩) hP hD hS hA [] rfl (fun r15 H locs hw15 hP hS => ?_)
    try dsimp only at hw15
    refine lv_if_eq (tgt := 50) hx hb dX3_slope_18 (by decide) (fun c18 => ?_) (fun c18 => ?_)
    · have k18 : (r15.toInt : Int) = 0 := i_eq rfl (show ((0 : Int32)).toInt = 0 by decide) c18
      refine lv_bipush (v := (-2)) hx hb dX3_slope_50 (by decide) ?_
      exact W.iret (v := (-2)) hx hb hr (fun t ht hW => ⟨⟨(-2), (zm, kt, ks, kf, kl, ku), rfl, (by (try dsimp only); exact ⟨nm, hnm, hOm, hSr, hU, Or.inl ⟨by omega, by omega, ⟨rfl, rfl, rfl, rfl, rfl⟩⟩⟩), by rw [ht]; exact hP, hD⟩, hS.F ht⟩) hS.2.2 dX3_slope_52
    · have k18 : (r15.toInt : Int) ≠ 0 := i_ne rfl (show ((0 : Int32)).toInt = 0 by decide) c18
      refine lv_iload_n hx hb dX3_slope_21 rfl (lv_at hl 3 rfl) ?_
      refine lv_iconst (v := 1) hx hb dX3_slope_22 (by decide) ?_
      refine lv_ldc (v := 1000000) hx hb hown (hts (.constant RX3 35 1000000) (by decide +kernel)) dX3_slope_23 ?_
      have hPc := hP.sub (ws' := ([] : va_W)) [] rfl
      have hDc := hD.sub (ws' := ([] : va_W)) [] (by decide) rfl
      have hcc := (ct_X3_isWithin l G cI cL H.size p2 1 1000000)
      refine ro_calli (va_runS (As := [.int p2, .int 1, .int 1000000]) (rest := []) ⟨hx, hb, hml, hown, hts⟩ hcc (va_cwS 3 hts gX3_slope_X3_isWithin rfl rfl rfl (by decide +kernel) ⟨Nat.le_of_ble_eq_true rfl, Nat.le_of_ble_eq_true rfl⟩) ⟨pre_blind, pre_pass hK hN hPc hDc⟩ rfl rfl hl.1 rfl (lv_room (Nat.le_of_ble_eq_true rfl)) dX3_slope_25 ⟨Nat.le_of_ble_eq_true rfl, Nat.le_of_ble_eq_true rfl⟩) hP hD hS hA [] rfl (fun r25 H locs hw25 hP hS => ?_)
      try dsimp only at hw25
      refine lv_if_eq (tgt := 50) hx hb dX3_slope_28 (by decide) (fun c28 => ?_) (fun c28 => ?_)
      · have k28 : (r25.toInt : Int) = 0 := i_eq rfl (show ((0 : Int32)).toInt = 0 by decide) c28
        refine lv_bipush (v := (-2)) hx hb dX3_slope_50 (by decide) ?_
        exact W.iret (v := (-2)) hx hb hr (fun t ht hW => ⟨⟨(-2), (zm, kt, ks, kf, kl, ku), rfl, (by (try dsimp only); exact ⟨nm, hnm, hOm, hSr, hU, Or.inl ⟨by omega, by omega, ⟨rfl, rfl, rfl, rfl, rfl⟩⟩⟩), by rw [ht]; exact hP, hD⟩, hS.F ht⟩) hS.2.2 dX3_slope_52
      · have k28 : (r25.toInt : Int) ≠ 0 := i_ne rfl (show ((0 : Int32)).toInt = 0 by decide) c28
        refine lv_iload hx hb dX3_slope_31 (lv_at hl 4 rfl) ?_
        refine lv_iconst (v := 1) hx hb dX3_slope_33 (by decide) ?_
        refine lv_ldc (v := 1000000) hx hb hown (hts (.constant RX3 35 1000000) (by decide +kernel)) dX3_slope_34 ?_
        have hPc := hP.sub (ws' := ([] : va_W)) [] rfl
        have hDc := hD.sub (ws' := ([] : va_W)) [] (by decide) rfl
        have hcc := (ct_X3_isWithin l G cI cL H.size p3 1 1000000)
        refine ro_calli (va_runS (As := [.int p3, .int 1, .int 1000000]) (rest := []) ⟨hx, hb, hml, hown, hts⟩ hcc (va_cwS 3 hts gX3_slope_X3_isWithin rfl rfl rfl (by decide +kernel) ⟨Nat.le_of_ble_eq_true rfl, Nat.le_of_ble_eq_true rfl⟩) ⟨pre_blind, pre_pass hK hN hPc hDc⟩ rfl rfl hl.1 rfl (lv_room (Nat.le_of_ble_eq_true rfl)) dX3_slope_36 ⟨Nat.le_of_ble_eq_true rfl, Nat.le_of_ble_eq_true rfl⟩) hP hD hS hA [] rfl (fun r36 H locs hw36 hP hS => ?_)
        try dsimp only at hw36
        refine lv_if_eq (tgt := 50) hx hb dX3_slope_39 (by decide) (fun c39 => ?_) (fun c39 => ?_)
        · have k39 : (r36.toInt : Int) = 0 := i_eq rfl (show ((0 : Int32)).toInt = 0 by decide) c39
          refine lv_bipush (v := (-2)) hx hb dX3_slope_50 (by decide) ?_
          exact W.iret (v := (-2)) hx hb hr (fun t ht hW => ⟨⟨(-2), (zm, kt, ks, kf, kl, ku), rfl, (by (try dsimp only); exact ⟨nm, hnm, hOm, hSr, hU, Or.inl ⟨by omega, by omega, ⟨rfl, rfl, rfl, rfl, rfl⟩⟩⟩), by rw [ht]; exact hP, hD⟩, hS.F ht⟩) hS.2.2 dX3_slope_52
        · have k39 : (r36.toInt : Int) ≠ 0 := i_ne rfl (show ((0 : Int32)).toInt = 0 by decide) c39
          refine lv_iload_n hx hb dX3_slope_42 rfl (lv_at hl 1 rfl) ?_
          refine lv_iload_n hx hb dX3_slope_43 rfl (lv_at hl 2 rfl) ?_
          refine lv_iadd hx hb dX3_slope_44 ?_
          refine lv_topi (fun x44 ex44 => ?_)
          have tx44 : x44.toInt = p0.toInt + p1.toInt := by rw [ex44]; exact ti_add rfl rfl (by omega) (by omega)
          refine lv_ldc (v := 1000000) hx hb hown (hts (.constant RX3 35 1000000) (by decide +kernel)) dX3_slope_45 ?_
          refine lv_icmp_le (tgt := 53) hx hb dX3_slope_47 (by decide) (fun c47 => ?_) (fun c47 => ?_)
          · have k47 : (x44.toInt : Int) ≤ 1000000 := i_le rfl (show ((1000000 : Int32)).toInt = 1000000 by decide) c47
            refine lv_aload_n hx hb dX3_slope_53 rfl (lv_at hl 0 rfl) ?_
            refine va_get (D := G) (ci := 3) (v := .ref qm) (C := RX3) (T := TX3) (N := 3) hx hb hts hiX3 hown hK hP 0 rfl rfl 0 (by decide) hf10 (fun _ h9 => h9) rfl dX3_slope_54 ?_
            refine lv_iload_n hx hb dX3_slope_57 rfl (lv_at hl 1 rfl) ?_
            have hPc := hP.sub (ws' := [(qm, .inr (1, [.ref qm1, .ref qm2, .ref qm3, .ref qm4, .ref qm5, .int zm])), (qm1, .inl (cI, 40, .inl kt)), (qm2, .inl (cI, 40, .inl ks)), (qm3, .inl (cI, 40, .inl kf)), (qm4, .inl (cI, 40, .inl kl)), (qm5, .inl (cL, 40, .inr (.inl ku)))]) [1, 2, 3, 4, 5, 6] rfl
            have hDc := hD.sub (ws' := [(qm, .inr (1, [.ref qm1, .ref qm2, .ref qm3, .ref qm4, .ref qm5, .int zm])), (qm1, .inl (cI, 40, .inl kt)), (qm2, .inl (cI, 40, .inl ks)), (qm3, .inl (cI, 40, .inl kf)), (qm4, .inl (cI, 40, .inl kl)), (qm5, .inl (cL, 40, .inr (.inl ku)))]) [1, 2, 3, 4, 5, 6] (by decide) rfl
            have hcc := (ct_X1_isInsideSlope l G cI cL H.size qm qm1 qm2 qm3 qm4 qm5 zm kt ks kf kl ku p0 nm hnm hOm hSr (by omega))
            refine ro_calli (va_runV (As := [.int p0]) (rest := []) ⟨hx, hb, hml, hown, hts⟩ hcc (cwV 1 hts gX3_slope_X1_isInsideSlope rfl rfl rfl (by decide +kernel) ⟨Nat.le_of_ble_eq_true rfl, Nat.le_of_ble_eq_true rfl⟩) ⟨pre_blind, va_recv hK hPc (ci := 1) (q0 := 0) rfl rfl, pre_pass hK hN hPc hDc⟩ rfl rfl hl.1 rfl (lv_room (Nat.le_of_ble_eq_true rfl)) dX3_slope_58 ⟨Nat.le_of_ble_eq_true rfl, Nat.le_of_ble_eq_true rfl⟩) hP hD hS hA [1, 2, 3, 4, 5, 6] rfl (fun r58 H locs hw58 hP hS => ?_)
            try dsimp only at hw58
            refine lv_if_ne (tgt := 78) hx hb dX3_slope_61 (by decide) (fun c61 => ?_) (fun c61 => ?_)
            · have k61 : (r58.toInt : Int) ≠ 0 := i_ne rfl (show ((0 : Int32)).toInt = 0 by decide) c61
              have ii : insS nm kt ks p0.toInt ∨ btw nm kt p0.toInt (p0.toInt + p1.toInt) := by rcases hw58 with h | h; exact Or.inl h.2; omega
              refine lv_bipush (v := (-3)) hx hb dX3_slope_78 (by decide) ?_
              exact W.iret (v := (-3)) hx hb hr (fun t ht hW => ⟨⟨(-3), (zm, kt, ks, kf, kl, ku), rfl, (by (try dsimp only); exact ⟨nm, hnm, hOm, hSr, hU, Or.inr ⟨by omega, Or.inl ⟨ii, by omega, ⟨rfl, rfl, rfl, rfl, rfl⟩⟩⟩⟩), by rw [ht]; exact hP, hD⟩, hS.F ht⟩) hS.2.2 dX3_slope_80
            · have k61 : (r58.toInt : Int) = 0 := i_eq rfl (show ((0 : Int32)).toInt = 0 by decide) c61
              have ni : ¬ insS nm kt ks p0.toInt := by rcases hw58 with h | h; omega; exact h.2
              refine lv_aload_n hx hb dX3_slope_64 rfl (lv_at hl 0 rfl) ?_
              refine va_get (D := G) (ci := 3) (v := .ref qm) (C := RX3) (T := TX3) (N := 3) hx hb hts hiX3 hown hK hP 0 rfl rfl 0 (by decide) hf10 (fun _ h9 => h9) rfl dX3_slope_65 ?_
              refine lv_iload_n hx hb dX3_slope_68 rfl (lv_at hl 1 rfl) ?_
              refine lv_iload_n hx hb dX3_slope_69 rfl (lv_at hl 1 rfl) ?_
              refine lv_iload_n hx hb dX3_slope_70 rfl (lv_at hl 2 rfl) ?_
              refine lv_iadd hx hb dX3_slope_71 ?_
              refine lv_topi (fun x71 ex71 => ?_)
              have tx71 : x71.toInt = p0.toInt + p1.toInt := by rw [ex71]; exact ti_add rfl rfl (by omega) (by omega)
              have hPc := hP.sub (ws' := [(qm, .inr (1, [.ref qm1, .ref qm2, .ref qm3, .ref qm4, .ref qm5, .int zm])), (qm1, .inl (cI, 40, .inl kt)), (qm2, .inl (cI, 40, .inl ks)), (qm3, .inl (cI, 40, .inl kf)), (qm4, .inl (cI, 40, .inl kl)), (qm5, .inl (cL, 40, .inr (.inl ku)))]) [1, 2, 3, 4, 5, 6] rfl
              have hDc := hD.sub (ws' := [(qm, .inr (1, [.ref qm1, .ref qm2, .ref qm3, .ref qm4, .ref qm5, .int zm])), (qm1, .inl (cI, 40, .inl kt)), (qm2, .inl (cI, 40, .inl ks)), (qm3, .inl (cI, 40, .inl kf)), (qm4, .inl (cI, 40, .inl kl)), (qm5, .inl (cL, 40, .inr (.inl ku)))]) [1, 2, 3, 4, 5, 6] (by decide) rfl
              have hcc := (ct_X1_isAnyBetween l G cI cL H.size qm qm1 qm2 qm3 qm4 qm5 zm kt ks kf kl ku p0 x71 nm hnm hOm hSr (by omega) (by omega))
              refine ro_calli (va_runV (As := [.int p0, .int x71]) (rest := []) ⟨hx, hb, hml, hown, hts⟩ hcc (cwV 2 hts gX3_slope_X1_isAnyBetween rfl rfl rfl (by decide +kernel) ⟨Nat.le_of_ble_eq_true rfl, Nat.le_of_ble_eq_true rfl⟩) ⟨pre_blind, va_recv hK hPc (ci := 1) (q0 := 0) rfl rfl, pre_pass hK hN hPc hDc⟩ rfl rfl hl.1 rfl (lv_room (Nat.le_of_ble_eq_true rfl)) dX3_slope_72 ⟨Nat.le_of_ble_eq_true rfl, Nat.le_of_ble_eq_true rfl⟩) hP hD hS hA [1, 2, 3, 4, 5, 6] rfl (fun r72 H locs hw72 hP hS => ?_)
              try dsimp only at hw72
              refine lv_if_eq (tgt := 81) hx hb dX3_slope_75 (by decide) (fun c75 => ?_) (fun c75 => ?_)
              · have k75 : (r72.toInt : Int) = 0 := i_eq rfl (show ((0 : Int32)).toInt = 0 by decide) c75
                have nb : ¬ btw nm kt p0.toInt x71.toInt := by rcases hw72 with h | h; omega; exact h.2
                refine lv_aload_n hx hb dX3_slope_81 rfl (lv_at hl 0 rfl) ?_
                refine va_get (D := G) (ci := 3) (v := .ref qm) (C := RX3) (T := TX3) (N := 3) hx hb hts hiX3 hown hK hP 0 rfl rfl 0 (by decide) hf10 (fun _ h9 => h9) rfl dX3_slope_82 ?_
                refine lv_iload_n hx hb dX3_slope_85 rfl (lv_at hl 1 rfl) ?_
                refine lv_iload_n hx hb dX3_slope_86 rfl (lv_at hl 2 rfl) ?_
                refine lv_iload_n hx hb dX3_slope_87 rfl (lv_at hl 3 rfl) ?_
                refine lv_iload hx hb dX3_slope_88 (lv_at hl 4 rfl) ?_
                have hPc := hP.sub (ws' := [(qm, .inr (1, [.ref qm1, .ref qm2, .ref qm3, .ref qm4, .ref qm5, .int zm])), (qm1, .inl (cI, 40, .inl kt)), (qm2, .inl (cI, 40, .inl ks)), (qm3, .inl (cI, 40, .inl kf)), (qm4, .inl (cI, 40, .inl kl)), (qm5, .inl (cL, 40, .inr (.inl ku)))]) [1, 2, 3, 4, 5, 6] rfl
                have hDc := hD.sub (ws' := [(qm, .inr (1, [.ref qm1, .ref qm2, .ref qm3, .ref qm4, .ref qm5, .int zm])), (qm1, .inl (cI, 40, .inl kt)), (qm2, .inl (cI, 40, .inl ks)), (qm3, .inl (cI, 40, .inl kf)), (qm4, .inl (cI, 40, .inl kl)), (qm5, .inl (cL, 40, .inr (.inl ku)))]) [1, 2, 3, 4, 5, 6] (by decide) rfl
                have hcc := (ct_X1_put l G cI cL H.size qm qm1 qm2 qm3 qm4 qm5 zm kt ks kf kl ku p0 p1 p2 p3 nm hnm hOm hSr hU (by omega) (by omega) (by omega) (by omega) (by omega) ni (by rw [← tx71]; exact nb))
                refine rw_calli (wr := [(qx, .inr (3, [.ref qm, .ref qh, .ref qt])), (qh, .inr (0, [.ref qh1, .ref qh2, .int zh])), (qh1, .inl (cI, 20, .inl gt)), (qh2, .inl (cI, 20, .inl gu)), (qt, .inr (2, [.ref qt1, .int zt])), (qt1, .inl (cL, 40, .inr (.inl kp)))]) (va_runV (As := [.int p0, .int p1, .int p2, .int p3]) (rest := []) ⟨hx, hb, hml, hown, hts⟩ hcc (cwV 4 hts gX3_slope_X1_put rfl rfl rfl (by decide +kernel) ⟨Nat.le_of_ble_eq_true rfl, Nat.le_of_ble_eq_true rfl⟩) ⟨pre_blind, va_recv hK hPc (ci := 1) (q0 := 0) rfl rfl, pre_pass hK hN hPc hDc⟩ rfl rfl hl.1 rfl (lv_room (Nat.le_of_ble_eq_true rfl)) dX3_slope_90 ⟨Nat.le_of_ble_eq_true rfl, Nat.le_of_ble_eq_true rfl⟩) hP hD hS hA [1, 2, 3, 4, 5, 6] [0, 7, 8, 9, 10, 11] rfl rfl (by decide) (by decide) (fun r90 u90 H locs hw90 hP hD hS => ?_)
                obtain ⟨zm90, kt90, ks90, kf90, kl90, ku90⟩ := u90
                have hP : va_P G vwCl [(qx, .inr (3, [.ref qm, .ref qh, .ref qt])), (qm, .inr (1, [.ref qm1, .ref qm2, .ref qm3, .ref qm4, .ref qm5, .int zm90])), (qm1, .inl (cI, 40, .inl kt90)), (qm2, .inl (cI, 40, .inl ks90)), (qm3, .inl (cI, 40, .inl kf90)), (qm4, .inl (cI, 40, .inl kl90)), (qm5, .inl (cL, 40, .inr (.inl ku90))), (qh, .inr (0, [.ref qh1, .ref qh2, .int zh])), (qh1, .inl (cI, 20, .inl gt)), (qh2, .inl (cI, 20, .inl gu)), (qt, .inr (2, [.ref qt1, .int zt])), (qt1, .inl (cL, 40, .inr (.inl kp)))] H := hP.sub [0, 6, 7, 8, 9, 10, 11, 1, 2, 3, 4, 5] rfl
                have hD : va_D A [(qx, .inr (3, [.ref qm, .ref qh, .ref qt])), (qm, .inr (1, [.ref qm1, .ref qm2, .ref qm3, .ref qm4, .ref qm5, .int zm90])), (qm1, .inl (cI, 40, .inl kt90)), (qm2, .inl (cI, 40, .inl ks90)), (qm3, .inl (cI, 40, .inl kf90)), (qm4, .inl (cI, 40, .inl kl90)), (qm5, .inl (cL, 40, .inr (.inl ku90))), (qh, .inr (0, [.ref qh1, .ref qh2, .int zh])), (qh1, .inl (cI, 20, .inl gt)), (qh2, .inl (cI, 20, .inl gu)), (qt, .inr (2, [.ref qt1, .int zt])), (qt1, .inl (cL, 40, .inr (.inl kp)))] := hD.sub [0, 6, 7, 8, 9, 10, 11, 1, 2, 3, 4, 5] (by decide) rfl
                try dsimp only at hw90
                obtain ⟨n90, a90, b90, c90, d90, e90⟩ := hw90
                exact W.iret (v := r90) hx hb hr (fun t ht hW => ⟨⟨r90, (zm90, kt90, ks90, kf90, kl90, ku90), rfl, (by (try dsimp only); exact ⟨n90, a90, c90, d90, e90, Or.inr ⟨by omega, Or.inr ⟨ni, by rw [← tx71]; exact nb, b90⟩⟩⟩), by rw [ht]; exact hP, hD⟩, hS.F ht⟩) hS.2.2 dX3_slope_93
              · have k75 : (r72.toInt : Int) ≠ 0 := i_ne rfl (show ((0 : Int32)).toInt = 0 by decide) c75
                have ii : insS nm kt ks p0.toInt ∨ btw nm kt p0.toInt (p0.toInt + p1.toInt) := by rw [← tx71]; rcases hw72 with h | h; exact Or.inr h.2; omega
                refine lv_bipush (v := (-3)) hx hb dX3_slope_78 (by decide) ?_
                exact W.iret (v := (-3)) hx hb hr (fun t ht hW => ⟨⟨(-3), (zm, kt, ks, kf, kl, ku), rfl, (by (try dsimp only); exact ⟨nm, hnm, hOm, hSr, hU, Or.inr ⟨by omega, Or.inl ⟨ii, by omega, ⟨rfl, rfl, rfl, rfl, rfl⟩⟩⟩⟩), by rw [ht]; exact hP, hD⟩, hS.F ht⟩) hS.2.2 dX3_slope_80
          · have k47 : (1000000 : Int) < x44.toInt := i_nle rfl (show ((1000000 : Int32)).toInt = 1000000 by decide) c47
            refine lv_bipush (v := (-2)) hx hb dX3_slope_50 (by decide) ?_
            exact W.iret (v := (-2)) hx hb hr (fun t ht hW => ⟨⟨(-2), (zm, kt, ks, kf, kl, ku), rfl, (by (try dsimp only); exact ⟨nm, hnm, hOm, hSr, hU, Or.inl ⟨by omega, by omega, ⟨rfl, rfl, rfl, rfl, rfl⟩⟩⟩), by rw [ht]; exact hP, hD⟩, hS.F ht⟩) hS.2.2 dX3_slope_52
set_option maxHeartbeats 1000000 in
set_option maxRecDepth 100000 in
theorem ct_X3_modulate (l : Launch) (G : va_G) (cI cL : ClassId) (sz : Nat) (qx : Nat) (qm : Nat) (qm1 : Nat) (qm2 : Nat) (qm3 : Nat) (qm4 : Nat) (qm5 : Nat) (zm : Int32) (kt : Nat → Int32) (ks : Nat → Int32) (kf : Nat → Int32) (kl : Nat → Int32) (ku : Nat → Int64) (qh : Nat) (qh1 : Nat) (qh2 : Nat) (zh : Int32) (gt : Nat → Int32) (gu : Nat → Int32) (qt : Nat) (qt1 : Nat) (zt : Int32) (kp : Nat → Int64) (p0 : Int32) (p1 : Int32) (p2 : Int32) (nm : Nat) (hnm : zm.toInt = nm) (hOm : okM nm kt ks kf kl) (hSr : srt nm kt) (hU : okU nm kt ks kf kl ku) (nh : Nat) (hnh : zh.toInt = nh) (hOh : okH nh gt gu) (nt : Nat) (hnt : zt.toInt = nt) (hOt : okT nt kp) : Met l yX3_modulate wsX3_modulate ({ frames := 6, cells := 0, slots := 0, locals := 156 }) (va_Pc [.ref qx, .int p0, .int p1, .int p2] (pre0 G cI cL [(qx, .inr (3, [.ref qm, .ref qh, .ref qt])), (qm, .inr (1, [.ref qm1, .ref qm2, .ref qm3, .ref qm4, .ref qm5, .int zm])), (qm1, .inl (cI, 40, .inl kt)), (qm2, .inl (cI, 40, .inl ks)), (qm3, .inl (cI, 40, .inl kf)), (qm4, .inl (cI, 40, .inl kl)), (qm5, .inl (cL, 40, .inr (.inl ku))), (qh, .inr (0, [.ref qh1, .ref qh2, .int zh])), (qh1, .inl (cI, 20, .inl gt)), (qh2, .inl (cI, 20, .inl gu)), (qt, .inr (2, [.ref qt1, .int zt])), (qt1, .inl (cL, 40, .inr (.inl kp)))] sz)) (va_Qi (fun (r : Int32) (u : Int32 × (Nat → Int32) × (Nat → Int32) × (Nat → Int32) × (Nat → Int32) × (Nat → Int64)) => ∃ n' : Nat, u.1.toInt = n' ∧ okM n' u.2.1 u.2.2.1 u.2.2.2.1 u.2.2.2.2.1 ∧ srt n' u.2.1 ∧ okU n' u.2.1 u.2.2.1 u.2.2.2.1 u.2.2.2.2.1 u.2.2.2.2.2 ∧ cMod (paceF kt ks kf kl nm) nm kt ks kf kl p0 p1 p2 r.toInt n' u.2.1 u.2.2.1 u.2.2.2.1 u.2.2.2.2.1) (fun (u : Int32 × (Nat → Int32) × (Nat → Int32) × (Nat → Int32) × (Nat → Int32) × (Nat → Int64)) t => va_P G vwCl [(qx, .inr (3, [.ref qm, .ref qh, .ref qt])), (qm, .inr (1, [.ref qm1, .ref qm2, .ref qm3, .ref qm4, .ref qm5, .int u.1])), (qm1, .inl (cI, 40, .inl (u.2.1))), (qm2, .inl (cI, 40, .inl (u.2.2.1))), (qm3, .inl (cI, 40, .inl (u.2.2.2.1))), (qm4, .inl (cI, 40, .inl (u.2.2.2.2.1))), (qm5, .inl (cL, 40, .inr (.inl (u.2.2.2.2.2)))), (qh, .inr (0, [.ref qh1, .ref qh2, .int zh])), (qh1, .inl (cI, 20, .inl gt)), (qh2, .inl (cI, 20, .inl gu)), (qt, .inr (2, [.ref qt1, .int zt])), (qt1, .inl (cL, 40, .inr (.inl kp)))] t.heap ∧ va_D (va_A [(qx, .inr (3, [.ref qm, .ref qh, .ref qt])), (qm, .inr (1, [.ref qm1, .ref qm2, .ref qm3, .ref qm4, .ref qm5, .int zm])), (qm1, .inl (cI, 40, .inl kt)), (qm2, .inl (cI, 40, .inl ks)), (qm3, .inl (cI, 40, .inl kf)), (qm4, .inl (cI, 40, .inl kl)), (qm5, .inl (cL, 40, .inr (.inl ku))), (qh, .inr (0, [.ref qh1, .ref qh2, .int zh])), (qh1, .inl (cI, 20, .inl gt)), (qh2, .inl (cI, 20, .inl gu)), (qt, .inr (2, [.ref qt1, .int zt])), (qt1, .inl (cL, 40, .inr (.inl kp)))] sz) [(qx, .inr (3, [.ref qm, .ref qh, .ref qt])), (qm, .inr (1, [.ref qm1, .ref qm2, .ref qm3, .ref qm4, .ref qm5, .int u.1])), (qm1, .inl (cI, 40, .inl (u.2.1))), (qm2, .inl (cI, 40, .inl (u.2.2.1))), (qm3, .inl (cI, 40, .inl (u.2.2.2.1))), (qm4, .inl (cI, 40, .inl (u.2.2.2.2.1))), (qm5, .inl (cL, 40, .inr (.inl (u.2.2.2.2.2)))), (qh, .inr (0, [.ref qh1, .ref qh2, .int zh])), (qh1, .inl (cI, 20, .inl gt)), (qh2, .inl (cI, 20, .inl gu)), (qt, .inr (2, [.ref qt1, .int zt])), (qt1, .inl (cL, 40, .inr (.inl kp)))]) (va_A [(qx, .inr (3, [.ref qm, .ref qh, .ref qt])), (qm, .inr (1, [.ref qm1, .ref qm2, .ref qm3, .ref qm4, .ref qm5, .int zm])), (qm1, .inl (cI, 40, .inl kt)), (qm2, .inl (cI, 40, .inl ks)), (qm3, .inl (cI, 40, .inl kf)), (qm4, .inl (cI, 40, .inl kl)), (qm5, .inl (cL, 40, .inr (.inl ku))), (qh, .inr (0, [.ref qh1, .ref qh2, .int zh])), (qh1, .inl (cI, 20, .inl gt)), (qh2, .inl (cI, 20, .inl gu)), (qt, .inr (2, [.ref qt1, .int zt])), (qt1, .inl (cL, 40, .inr (.inl kp)))] sz)) 0 0 (va_A [(qx, .inr (3, [.ref qm, .ref qh, .ref qt])), (qm, .inr (1, [.ref qm1, .ref qm2, .ref qm3, .ref qm4, .ref qm5, .int zm])), (qm1, .inl (cI, 40, .inl kt)), (qm2, .inl (cI, 40, .inl ks)), (qm3, .inl (cI, 40, .inl kf)), (qm4, .inl (cI, 40, .inl kl)), (qm5, .inl (cL, 40, .inr (.inl ku))), (qh, .inr (0, [.ref qh1, .ref qh2, .int zh])), (qh1, .inl (cI, 20, .inl gt)), (qh2, .inl (cI, 20, .inl gu)), (qt, .inr (2, [.ref qt1, .int zt])), (qt1, .inl (cL, 40, .inr (.inl kp)))] sz) := by
  refine Met.ofW (cc := cX3_modulate) (maxL := 5) (ret := (some .int)) (by decide) rfl ?_
  intro p e s m args below meth c s₁ B hml hv
  obtain ⟨rfl, hsz, hP, hK, hD0, hN⟩ := hv
  have hx := B.exec
  have hb := B.bytes
  have hr := B.returns
  have hts := atoms_spec (ws := wsX3_modulate) B.pre
  have hown : s.vm.findClass RX3 = some m.cls := findClass_of_methodNamed B.named
  have hlocks := B.notSynchronized
  subst hsz
  have hD := hD0.self (sz := s.heap.size)
  generalize hAe : va_A [(qx, .inr (3, [.ref qm, .ref qh, .ref qt])), (qm, .inr (1, [.ref qm1, .ref qm2, .ref qm3, .ref qm4, .ref qm5, .int zm])), (qm1, .inl (cI, 40, .inl kt)), (qm2, .inl (cI, 40, .inl ks)), (qm3, .inl (cI, 40, .inl kf)), (qm4, .inl (cI, 40, .inl kl)), (qm5, .inl (cL, 40, .inr (.inl ku))), (qh, .inr (0, [.ref qh1, .ref qh2, .int zh])), (qh1, .inl (cI, 20, .inl gt)), (qh2, .inl (cI, 20, .inl gu)), (qt, .inr (2, [.ref qt1, .int zt])), (qt1, .inl (cL, 40, .inr (.inl kp)))] s.heap.size = A at hD ⊢
  have hA : ∀ q : Nat, s.heap.size ≤ q → A q := fun q h => by rw [← hAe]; exact Or.inr h
  have hP : va_P G vwCl [(qx, .inr (3, [.ref qm, .ref qh, .ref qt])), (qm, .inr (1, [.ref qm1, .ref qm2, .ref qm3, .ref qm4, .ref qm5, .int zm])), (qm1, .inl (cI, 40, .inl kt)), (qm2, .inl (cI, 40, .inl ks)), (qm3, .inl (cI, 40, .inl kf)), (qm4, .inl (cI, 40, .inl kl)), (qm5, .inl (cL, 40, .inr (.inl ku))), (qh, .inr (0, [.ref qh1, .ref qh2, .int zh])), (qh1, .inl (cI, 20, .inl gt)), (qh2, .inl (cI, 20, .inl gu)), (qt, .inr (2, [.ref qt1, .int zt])), (qt1, .inl (cL, 40, .inr (.inl kp)))] s.heap := hP
  have hl := lv_entry ([.ref qx, .int p0, .int p1, .int p2]) (n := 5) (Nat.le_of_ble_eq_true rfl)
  rw [lg_entry_eq]
  generalize (lg_sl ([.ref qx, .int p0, .int p1, .int p2]) ++ List.replicate (5 - (lg_sl ([.ref qx, .int p0, .int p1, .int p2])).length) Slot.unset).toArray = ls at hl ⊢
  have hl : lv_has ls 5 [(0, .ref qx), (1, .int p0), (2, .int p1), (3, .int p2)] := hl
  have hf10 := hts (.fieldLink RX3 10 "TempoMaps" "marks" "LTempoMaps$Marks;") (by decide +kernel)
  have hiX3 : ∀ w ∈ wsX30, w ∈ wsX3_modulate := by decide +kernel
  have zim4 : ((-4 : Int32)).toInt = -4 := by decide
  have zim3 : ((-3 : Int32)).toInt = -3 := by decide
  have zim2 : ((-2 : Int32)).toInt = -2 := by decide
  have zi1 : ((1 : Int32)).toInt = 1 := by decide
  have zi1000 : ((1000 : Int32)).toInt = 1000 := by decide
  have zi999999 : ((999999 : Int32)).toInt = 999999 := by decide
  have zi1000000 : ((1000000 : Int32)).toInt = 1000000 := by decide
  refine w_h (A := A) hP (fun H locs hP hS => ?_)
  have hn40 := hOm.1
  have hrg := hOm.2.1
  have zz0 : ((0 : Int32)).toInt = 0 := by decide
  refine lv_iload_n hx hb dX3_modulate_0 rfl (lv_at hl 1 rfl) ?_
  refine lv_iconst (v := 1) hx hb dX3_modulate_1 (by decide) ?_
  refine lv_ldc (v := 999999) hx hb hown (hts (.constant RX3 30 999999) (by decide +kernel)) dX3_modulate_2 ?_
  have hPc := hP.sub (ws' := ([] : va_W)) [] rfl
  have hDc := hD.sub (ws' := ([] : va_W)) [] (by decide) rfl
  have hcc := (ct_X3_isWithin l G cI cL H.size p0 1 999999)
  refine ro_calli (va_runS (As := [.int p0, .int 1, .int 999999]) (rest := []) ⟨hx, hb, hml, hown, hts⟩ hcc (va_cwS 3 hts gX3_modulate_X3_isWithin rfl rfl rfl (by decide +kernel) ⟨Nat.le_of_ble_eq_true rfl, Nat.le_of_ble_eq_true rfl⟩) ⟨pre_blind, pre_pass hK hN hPc hDc⟩ rfl rfl hl.1 rfl (lv_room (Nat.le_of_ble_eq_true rfl)) dX3_modulate_4 ⟨Nat.le_of_ble_eq_true rfl, Nat.le_of_ble_eq_true rfl⟩) hP hD hS hA [] rfl (fun r4 H locs hw4 hP hS => ?_)
  try dsimp only at hw4
  refine lv_if_eq (tgt := 32) hx hb dX3_modulate_7 (by decide) (fun c7 => ?_) (fun c7 => ?_)
  · have k7 : (r4.toInt : Int) = 0 := i_eq rfl (show ((0 : Int32)).toInt = 0 by decide) c7
    refine lv_bipush (v := (-2)) hx hb dX3_modulate_32 (by decide) ?_
    exact W.iret (v := (-2)) hx hb hr (fun t ht hW => ⟨⟨(-2), (zm, kt, ks, kf, kl, ku), rfl, (by (try dsimp only); exact ⟨nm, hnm, hOm, hSr, hU, Or.inl ⟨by omega, by omega, ⟨rfl, rfl, rfl, rfl, rfl⟩⟩⟩), by rw [ht]; exact hP, hD⟩, hS.F ht⟩) hS.2.2 dX3_modulate_34
  · have k7 : (r4.toInt : Int) ≠ 0 := i_ne rfl (show ((0 : Int32)).toInt = 0 by decide) c7
    refine lv_iload_n hx hb dX3_modulate_10 rfl (lv_at hl 2 rfl) ?_
    refine lv_iconst (v := 1) hx hb dX3_modulate_11 (by decide) ?_
    refine lv_sipush (v := 1000) hx hb dX3_modulate_12 (by decide) ?_
    have hPc := hP.sub (ws' := ([] : va_W)) [] rfl
    have hDc := hD.sub (ws' := ([] : va_W)) [] (by decide) rfl
    have hcc := (ct_X3_isWithin l G cI cL H.size p1 1 1000)
    refine ro_calli (va_runS (As := [.int p1, .int 1, .int 1000]) (rest := []) ⟨hx, hb, hml, hown, hts⟩ hcc (va_cwS 3 hts gX3_modulate_X3_isWithin rfl rfl rfl (by decide +kernel) ⟨Nat.le_of_ble_eq_true rfl, Nat.le_of_ble_eq_true rfl⟩) ⟨pre_blind, pre_pass hK hN hPc hDc⟩ rfl rfl hl.1 rfl (lv_room (Nat.le_of_ble_eq_true rfl)) dX3_modulate_15 ⟨Nat.le_of_ble_eq_true rfl, Nat.le_of_ble_eq_true rfl⟩) hP hD hS hA [] rfl (fun r15 H locs hw15 hP hS => ?_)
    try dsimp only at hw15
    refine lv_if_eq (tgt := 32) hx hb dX3_modulate_18 (by decide) (fun c18 => ?_) (fun c18 => ?_)
    · have k18 : (r15.toInt : Int) = 0 := i_eq rfl (show ((0 : Int32)).toInt = 0 by decide) c18
      refine lv_bipush (v := (-2)) hx hb dX3_modulate_32 (by decide) ?_
      exact W.iret (v := (-2)) hx hb hr (fun t ht hW => ⟨⟨(-2), (zm, kt, ks, kf, kl, ku), rfl, (by (try dsimp only); exact ⟨nm, hnm, hOm, hSr, hU, Or.inl ⟨by omega, by omega, ⟨rfl, rfl, rfl, rfl, rfl⟩⟩⟩), by rw [ht]; exact hP, hD⟩, hS.F ht⟩) hS.2.2 dX3_modulate_34
    · have k18 : (r15.toInt : Int) ≠ 0 := i_ne rfl (show ((0 : Int32)).toInt = 0 by decide) c18
      refine lv_iload_n hx hb dX3_modulate_21 rfl (lv_at hl 3 rfl) ?_
      refine lv_iconst (v := 1) hx hb dX3_modulate_22 (by decide) ?_
      refine lv_sipush (v := 1000) hx hb dX3_modulate_23 (by decide) ?_
      have hPc := hP.sub (ws' := ([] : va_W)) [] rfl
      have hDc := hD.sub (ws' := ([] : va_W)) [] (by decide) rfl
      have hcc := (ct_X3_isWithin l G cI cL H.size p2 1 1000)
      refine ro_calli (va_runS (As := [.int p2, .int 1, .int 1000]) (rest := []) ⟨hx, hb, hml, hown, hts⟩ hcc (va_cwS 3 hts gX3_modulate_X3_isWithin rfl rfl rfl (by decide +kernel) ⟨Nat.le_of_ble_eq_true rfl, Nat.le_of_ble_eq_true rfl⟩) ⟨pre_blind, pre_pass hK hN hPc hDc⟩ rfl rfl hl.1 rfl (lv_room (Nat.le_of_ble_eq_true rfl)) dX3_modulate_26 ⟨Nat.le_of_ble_eq_true rfl, Nat.le_of_ble_eq_true rfl⟩) hP hD hS hA [] rfl (fun r26 H locs hw26 hP hS => ?_)
      try dsimp only at hw26
      refine lv_if_ne (tgt := 35) hx hb dX3_modulate_29 (by decide) (fun c29 => ?_) (fun c29 => ?_)
      · have k29 : (r26.toInt : Int) ≠ 0 := i_ne rfl (show ((0 : Int32)).toInt = 0 by decide) c29
        refine lv_aload_n hx hb dX3_modulate_35 rfl (lv_at hl 0 rfl) ?_
        refine va_get (D := G) (ci := 3) (v := .ref qm) (C := RX3) (T := TX3) (N := 3) hx hb hts hiX3 hown hK hP 0 rfl rfl 0 (by decide) hf10 (fun _ h9 => h9) rfl dX3_modulate_36 ?_
        refine lv_iload_n hx hb dX3_modulate_39 rfl (lv_at hl 1 rfl) ?_
        refine lv_iconst (v := 1) hx hb dX3_modulate_40 (by decide) ?_
        refine lv_isub hx hb dX3_modulate_41 ?_
        refine lv_topi (fun x41 ex41 => ?_)
        have tx41 : x41.toInt = p0.toInt - 1 := by rw [ex41]; exact ti_sub rfl (show ((1 : Int32)).toInt = 1 by decide) (by omega) (by omega)
        have hPc := hP.sub (ws' := [(qm, .inr (1, [.ref qm1, .ref qm2, .ref qm3, .ref qm4, .ref qm5, .int zm])), (qm1, .inl (cI, 40, .inl kt)), (qm2, .inl (cI, 40, .inl ks)), (qm3, .inl (cI, 40, .inl kf)), (qm4, .inl (cI, 40, .inl kl)), (qm5, .inl (cL, 40, .inr (.inl ku)))]) [1, 2, 3, 4, 5, 6] rfl
        have hDc := hD.sub (ws' := [(qm, .inr (1, [.ref qm1, .ref qm2, .ref qm3, .ref qm4, .ref qm5, .int zm])), (qm1, .inl (cI, 40, .inl kt)), (qm2, .inl (cI, 40, .inl ks)), (qm3, .inl (cI, 40, .inl kf)), (qm4, .inl (cI, 40, .inl kl)), (qm5, .inl (cL, 40, .inr (.inl ku)))]) [1, 2, 3, 4, 5, 6] (by decide) rfl
        have hcc := (ct_X1_unitsOfTick l G cI cL H.size qm qm1 qm2 qm3 qm4 qm5 zm kt ks kf kl ku x41 nm hnm hOm hSr (by omega))
        refine ro_calli (va_runV (As := [.int x41]) (rest := []) ⟨hx, hb, hml, hown, hts⟩ hcc (cwV 1 hts gX3_modulate_X1_unitsOfTick rfl rfl rfl (by decide +kernel) ⟨Nat.le_of_ble_eq_true rfl, Nat.le_of_ble_eq_true rfl⟩) ⟨pre_blind, va_recv hK hPc (ci := 1) (q0 := 0) rfl rfl, pre_pass hK hN hPc hDc⟩ rfl rfl hl.1 rfl (lv_room (Nat.le_of_ble_eq_true rfl)) dX3_modulate_42 ⟨Nat.le_of_ble_eq_true rfl, Nat.le_of_ble_eq_true rfl⟩) hP hD hS hA [1, 2, 3, 4, 5, 6] rfl (fun r42 H locs hw42 hP hS => ?_)
        try dsimp only at hw42
        have pr := pace_rng hOm (p0.toInt - 1)
        rw [tx41] at hw42
        rw [← hw42] at pr
        refine lv_iload_n hx hb dX3_modulate_45 rfl (lv_at hl 2 rfl) ?_
        have b46 := mul_bnd (show 0 ≤ r42.toInt ∧ r42.toInt ≤ 1000000 by omega) (show 0 ≤ p1.toInt ∧ p1.toInt ≤ 1000 by omega)
        refine lv_imul hx hb dX3_modulate_46 ?_
        refine lv_topi (fun x46 ex46 => ?_)
        have tx46 : x46.toInt = r42.toInt * p1.toInt := by rw [ex46]; exact ti_mul rfl rfl (by omega) (by omega)
        refine lv_iload_n hx hb dX3_modulate_47 rfl (lv_at hl 3 rfl) ?_
        refine lv_idiv hx hb dX3_modulate_48 (i_ne0 rfl (by omega)) ?_
        refine lv_topi (fun x48 ex48 => ?_)
        have tx48 : x48.toInt = x46.toInt / p2.toInt := by rw [ex48]; exact ti_div rfl rfl (by omega) (by omega)
        have ev : x48.toInt = paceF kt ks kf kl nm (p0.toInt - 1) * p1.toInt / p2.toInt := by rw [tx48, tx46, hw42]
        refine lv_istore (lv' := [(4, .int x48), (0, .ref qx), (1, .int p0), (2, .int p1), (3, .int p2)]) hx hb dX3_modulate_49  hl (by decide) rfl (fun ls hl => ?_)
        refine lv_aload_n hx hb dX3_modulate_51 rfl (lv_at hl 1 rfl) ?_
        refine va_get (D := G) (ci := 3) (v := .ref qm) (C := RX3) (T := TX3) (N := 3) hx hb hts hiX3 hown hK hP 0 rfl rfl 0 (by decide) hf10 (fun _ h9 => h9) rfl dX3_modulate_52 ?_
        refine lv_iload_n hx hb dX3_modulate_55 rfl (lv_at hl 2 rfl) ?_
        have hPc := hP.sub (ws' := [(qm, .inr (1, [.ref qm1, .ref qm2, .ref qm3, .ref qm4, .ref qm5, .int zm])), (qm1, .inl (cI, 40, .inl kt)), (qm2, .inl (cI, 40, .inl ks)), (qm3, .inl (cI, 40, .inl kf)), (qm4, .inl (cI, 40, .inl kl)), (qm5, .inl (cL, 40, .inr (.inl ku)))]) [1, 2, 3, 4, 5, 6] rfl
        have hDc := hD.sub (ws' := [(qm, .inr (1, [.ref qm1, .ref qm2, .ref qm3, .ref qm4, .ref qm5, .int zm])), (qm1, .inl (cI, 40, .inl kt)), (qm2, .inl (cI, 40, .inl ks)), (qm3, .inl (cI, 40, .inl kf)), (qm4, .inl (cI, 40, .inl kl)), (qm5, .inl (cL, 40, .inr (.inl ku)))]) [1, 2, 3, 4, 5, 6] (by decide) rfl
        have hcc := (ct_X1_isInsideSlope l G cI cL H.size qm qm1 qm2 qm3 qm4 qm5 zm kt ks kf kl ku p0 nm hnm hOm hSr (by omega))
        refine ro_calli (va_runV (As := [.int p0]) (rest := []) ⟨hx, hb, hml, hown, hts⟩ hcc (cwV 1 hts gX3_modulate_X1_isInsideSlope rfl rfl rfl (by decide +kernel) ⟨Nat.le_of_ble_eq_true rfl, Nat.le_of_ble_eq_true rfl⟩) ⟨pre_blind, va_recv hK hPc (ci := 1) (q0 := 0) rfl rfl, pre_pass hK hN hPc hDc⟩ rfl rfl hl.1 rfl (lv_room (Nat.le_of_ble_eq_true rfl)) dX3_modulate_56 ⟨Nat.le_of_ble_eq_true rfl, Nat.le_of_ble_eq_true rfl⟩) hP hD hS hA [1, 2, 3, 4, 5, 6] rfl (fun r56 H locs hw56 hP hS => ?_)
        try dsimp only at hw56
        refine lv_if_ne (tgt := 73) hx hb dX3_modulate_59 (by decide) (fun c59 => ?_) (fun c59 => ?_)
        · have k59 : (r56.toInt : Int) ≠ 0 := i_ne rfl (show ((0 : Int32)).toInt = 0 by decide) c59
          have ii : insS nm kt ks p0.toInt := by rcases hw56 with h | h; exact h.2; omega
          refine lv_bipush (v := (-3)) hx hb dX3_modulate_73 (by decide) ?_
          exact W.iret (v := (-3)) hx hb hr (fun t ht hW => ⟨⟨(-3), (zm, kt, ks, kf, kl, ku), rfl, (by (try dsimp only); exact (by first | exact ⟨nm, hnm, hOm, hSr, hU, Or.inr ⟨by omega, Or.inl ⟨by rw [← ev]; omega, by omega, ⟨rfl, rfl, rfl, rfl, rfl⟩⟩⟩⟩ | (by_cases hv : 1 ≤ x48.toInt ∧ x48.toInt ≤ 1000000; exact ⟨nm, hnm, hOm, hSr, hU, Or.inr ⟨by omega, Or.inr ⟨x48, -3, ev, hv.1, hv.2, Or.inl ⟨Or.inl ii, rfl, ⟨rfl, rfl, rfl, rfl, rfl⟩⟩, Or.inl ⟨by omega, by omega⟩⟩⟩⟩; exact ⟨nm, hnm, hOm, hSr, hU, Or.inr ⟨by omega, Or.inl ⟨by rw [← ev]; omega, by omega, ⟨rfl, rfl, rfl, rfl, rfl⟩⟩⟩⟩))), by rw [ht]; exact hP, hD⟩, hS.F ht⟩) hS.2.2 dX3_modulate_75
        · have k59 : (r56.toInt : Int) = 0 := i_eq rfl (show ((0 : Int32)).toInt = 0 by decide) c59
          have ni : ¬ insS nm kt ks p0.toInt := by rcases hw56 with h | h; omega; exact h.2
          refine lv_iload hx hb dX3_modulate_62 (lv_at hl 0 rfl) ?_
          refine lv_iconst (v := 1) hx hb dX3_modulate_64 (by decide) ?_
          refine lv_ldc (v := 1000000) hx hb hown (hts (.constant RX3 35 1000000) (by decide +kernel)) dX3_modulate_65 ?_
          have hPc := hP.sub (ws' := ([] : va_W)) [] rfl
          have hDc := hD.sub (ws' := ([] : va_W)) [] (by decide) rfl
          have hcc := (ct_X3_isWithin l G cI cL H.size x48 1 1000000)
          refine ro_calli (va_runS (As := [.int x48, .int 1, .int 1000000]) (rest := []) ⟨hx, hb, hml, hown, hts⟩ hcc (va_cwS 3 hts gX3_modulate_X3_isWithin rfl rfl rfl (by decide +kernel) ⟨Nat.le_of_ble_eq_true rfl, Nat.le_of_ble_eq_true rfl⟩) ⟨pre_blind, pre_pass hK hN hPc hDc⟩ rfl rfl hl.1 rfl (lv_room (Nat.le_of_ble_eq_true rfl)) dX3_modulate_67 ⟨Nat.le_of_ble_eq_true rfl, Nat.le_of_ble_eq_true rfl⟩) hP hD hS hA [] rfl (fun r67 H locs hw67 hP hS => ?_)
          try dsimp only at hw67
          refine lv_if_ne (tgt := 76) hx hb dX3_modulate_70 (by decide) (fun c70 => ?_) (fun c70 => ?_)
          · have k70 : (r67.toInt : Int) ≠ 0 := i_ne rfl (show ((0 : Int32)).toInt = 0 by decide) c70
            refine lv_aload_n hx hb dX3_modulate_76 rfl (lv_at hl 1 rfl) ?_
            refine va_get (D := G) (ci := 3) (v := .ref qm) (C := RX3) (T := TX3) (N := 3) hx hb hts hiX3 hown hK hP 0 rfl rfl 0 (by decide) hf10 (fun _ h9 => h9) rfl dX3_modulate_77 ?_
            refine lv_iload_n hx hb dX3_modulate_80 rfl (lv_at hl 2 rfl) ?_
            refine lv_iload hx hb dX3_modulate_81 (lv_at hl 0 rfl) ?_
            have hPc := hP.sub (ws' := [(qm, .inr (1, [.ref qm1, .ref qm2, .ref qm3, .ref qm4, .ref qm5, .int zm])), (qm1, .inl (cI, 40, .inl kt)), (qm2, .inl (cI, 40, .inl ks)), (qm3, .inl (cI, 40, .inl kf)), (qm4, .inl (cI, 40, .inl kl)), (qm5, .inl (cL, 40, .inr (.inl ku)))]) [1, 2, 3, 4, 5, 6] rfl
            have hDc := hD.sub (ws' := [(qm, .inr (1, [.ref qm1, .ref qm2, .ref qm3, .ref qm4, .ref qm5, .int zm])), (qm1, .inl (cI, 40, .inl kt)), (qm2, .inl (cI, 40, .inl ks)), (qm3, .inl (cI, 40, .inl kf)), (qm4, .inl (cI, 40, .inl kl)), (qm5, .inl (cL, 40, .inr (.inl ku)))]) [1, 2, 3, 4, 5, 6] (by decide) rfl
            have hcc := (ct_X1_putStep l G cI cL H.size qm qm1 qm2 qm3 qm4 qm5 zm kt ks kf kl ku p0 x48 nm hnm hOm hSr hU (by omega) (by omega) ni)
            refine rw_calli (wr := [(qx, .inr (3, [.ref qm, .ref qh, .ref qt])), (qh, .inr (0, [.ref qh1, .ref qh2, .int zh])), (qh1, .inl (cI, 20, .inl gt)), (qh2, .inl (cI, 20, .inl gu)), (qt, .inr (2, [.ref qt1, .int zt])), (qt1, .inl (cL, 40, .inr (.inl kp)))]) (va_runV (As := [.int p0, .int x48]) (rest := []) ⟨hx, hb, hml, hown, hts⟩ hcc (cwV 2 hts gX3_modulate_X1_putStep rfl rfl rfl (by decide +kernel) ⟨Nat.le_of_ble_eq_true rfl, Nat.le_of_ble_eq_true rfl⟩) ⟨pre_blind, va_recv hK hPc (ci := 1) (q0 := 0) rfl rfl, pre_pass hK hN hPc hDc⟩ rfl rfl hl.1 rfl (lv_room (Nat.le_of_ble_eq_true rfl)) dX3_modulate_83 ⟨Nat.le_of_ble_eq_true rfl, Nat.le_of_ble_eq_true rfl⟩) hP hD hS hA [1, 2, 3, 4, 5, 6] [0, 7, 8, 9, 10, 11] rfl rfl (by decide) (by decide) (fun r83 u83 H locs hw83 hP hD hS => ?_)
            obtain ⟨zm83, kt83, ks83, kf83, kl83, ku83⟩ := u83
            have hP : va_P G vwCl [(qx, .inr (3, [.ref qm, .ref qh, .ref qt])), (qm, .inr (1, [.ref qm1, .ref qm2, .ref qm3, .ref qm4, .ref qm5, .int zm83])), (qm1, .inl (cI, 40, .inl kt83)), (qm2, .inl (cI, 40, .inl ks83)), (qm3, .inl (cI, 40, .inl kf83)), (qm4, .inl (cI, 40, .inl kl83)), (qm5, .inl (cL, 40, .inr (.inl ku83))), (qh, .inr (0, [.ref qh1, .ref qh2, .int zh])), (qh1, .inl (cI, 20, .inl gt)), (qh2, .inl (cI, 20, .inl gu)), (qt, .inr (2, [.ref qt1, .int zt])), (qt1, .inl (cL, 40, .inr (.inl kp)))] H := hP.sub [0, 6, 7, 8, 9, 10, 11, 1, 2, 3, 4, 5] rfl
            have hD : va_D A [(qx, .inr (3, [.ref qm, .ref qh, .ref qt])), (qm, .inr (1, [.ref qm1, .ref qm2, .ref qm3, .ref qm4, .ref qm5, .int zm83])), (qm1, .inl (cI, 40, .inl kt83)), (qm2, .inl (cI, 40, .inl ks83)), (qm3, .inl (cI, 40, .inl kf83)), (qm4, .inl (cI, 40, .inl kl83)), (qm5, .inl (cL, 40, .inr (.inl ku83))), (qh, .inr (0, [.ref qh1, .ref qh2, .int zh])), (qh1, .inl (cI, 20, .inl gt)), (qh2, .inl (cI, 20, .inl gu)), (qt, .inr (2, [.ref qt1, .int zt])), (qt1, .inl (cL, 40, .inr (.inl kp)))] := hD.sub [0, 6, 7, 8, 9, 10, 11, 1, 2, 3, 4, 5] (by decide) rfl
            try dsimp only at hw83
            obtain ⟨n83, a83, b83, c83, d83, e83⟩ := hw83
            refine lv_bipush (v := (-4)) hx hb dX3_modulate_86 (by decide) ?_
            refine lv_icmp_ne (tgt := 96) hx hb dX3_modulate_88 (by decide) (fun c88 => ?_) (fun c88 => ?_)
            · have k88 : (r83.toInt : Int) ≠ (-4) := i_ne rfl (show ((-4 : Int32)).toInt = -4 by decide) c88
              refine lv_iload hx hb dX3_modulate_96 (lv_at hl 0 rfl) ?_
              exact W.iret (v := x48) hx hb hr (fun t ht hW => ⟨⟨x48, (zm83, kt83, ks83, kf83, kl83, ku83), rfl, (by (try dsimp only); exact (by have hq := cPut_r b83; first | exact ⟨n83, a83, c83, d83, e83, Or.inr ⟨by omega, Or.inr ⟨x48, r83.toInt, ev, by omega, by omega, Or.inr ⟨ni, (fun ⟨k, h1, h2, h3⟩ => by omega), b83⟩, Or.inl ⟨by omega, by omega⟩⟩⟩⟩ | exact ⟨n83, a83, c83, d83, e83, Or.inr ⟨by omega, Or.inr ⟨x48, r83.toInt, ev, by omega, by omega, Or.inr ⟨ni, (fun ⟨k, h1, h2, h3⟩ => by omega), b83⟩, Or.inr ⟨by omega, rfl⟩⟩⟩⟩)), by rw [ht]; exact hP, hD⟩, hS.F ht⟩) hS.2.2 dX3_modulate_98
            · have k88 : (r83.toInt : Int) = (-4) := i_eq rfl (show ((-4 : Int32)).toInt = -4 by decide) c88
              refine lv_bipush (v := (-4)) hx hb dX3_modulate_91 (by decide) ?_
              refine lv_goto (tgt := 98) hx hb dX3_modulate_93 (by decide) ?_
              exact W.iret (v := (-4)) hx hb hr (fun t ht hW => ⟨⟨(-4), (zm83, kt83, ks83, kf83, kl83, ku83), rfl, (by (try dsimp only); exact (by have hq := cPut_r b83; first | exact ⟨n83, a83, c83, d83, e83, Or.inr ⟨by omega, Or.inr ⟨x48, r83.toInt, ev, by omega, by omega, Or.inr ⟨ni, (fun ⟨k, h1, h2, h3⟩ => by omega), b83⟩, Or.inl ⟨by omega, by omega⟩⟩⟩⟩ | exact ⟨n83, a83, c83, d83, e83, Or.inr ⟨by omega, Or.inr ⟨x48, r83.toInt, ev, by omega, by omega, Or.inr ⟨ni, (fun ⟨k, h1, h2, h3⟩ => by omega), b83⟩, Or.inr ⟨by omega, rfl⟩⟩⟩⟩)), by rw [ht]; exact hP, hD⟩, hS.F ht⟩) hS.2.2 dX3_modulate_98
          · have k70 : (r67.toInt : Int) = 0 := i_eq rfl (show ((0 : Int32)).toInt = 0 by decide) c70
            refine lv_bipush (v := (-3)) hx hb dX3_modulate_73 (by decide) ?_
            exact W.iret (v := (-3)) hx hb hr (fun t ht hW => ⟨⟨(-3), (zm, kt, ks, kf, kl, ku), rfl, (by (try dsimp only); exact (by first | exact ⟨nm, hnm, hOm, hSr, hU, Or.inr ⟨by omega, Or.inl ⟨by rw [← ev]; omega, by omega, ⟨rfl, rfl, rfl, rfl, rfl⟩⟩⟩⟩ | (by_cases hv : 1 ≤ x48.toInt ∧ x48.toInt ≤ 1000000; exact ⟨nm, hnm, hOm, hSr, hU, Or.inr ⟨by omega, Or.inr ⟨x48, -3, ev, hv.1, hv.2, Or.inl ⟨Or.inl ii, rfl, ⟨rfl, rfl, rfl, rfl, rfl⟩⟩, Or.inl ⟨by omega, by omega⟩⟩⟩⟩; exact ⟨nm, hnm, hOm, hSr, hU, Or.inr ⟨by omega, Or.inl ⟨by rw [← ev]; omega, by omega, ⟨rfl, rfl, rfl, rfl, rfl⟩⟩⟩⟩))), by rw [ht]; exact hP, hD⟩, hS.F ht⟩) hS.2.2 dX3_modulate_75
      · have k29 : (r26.toInt : Int) = 0 := i_eq rfl (show ((0 : Int32)).toInt = 0 by decide) c29
        refine lv_bipush (v := (-2)) hx hb dX3_modulate_32 (by decide) ?_
        exact W.iret (v := (-2)) hx hb hr (fun t ht hW => ⟨⟨(-2), (zm, kt, ks, kf, kl, ku), rfl, (by (try dsimp only); exact ⟨nm, hnm, hOm, hSr, hU, Or.inl ⟨by omega, by omega, ⟨rfl, rfl, rfl, rfl, rfl⟩⟩⟩), by rw [ht]; exact hP, hD⟩, hS.F ht⟩) hS.2.2 dX3_modulate_34
set_option maxHeartbeats 1000000 in
set_option maxRecDepth 100000 in
theorem ct_X3_drop (l : Launch) (G : va_G) (cI cL : ClassId) (sz : Nat) (qx : Nat) (qm : Nat) (qm1 : Nat) (qm2 : Nat) (qm3 : Nat) (qm4 : Nat) (qm5 : Nat) (zm : Int32) (kt : Nat → Int32) (ks : Nat → Int32) (kf : Nat → Int32) (kl : Nat → Int32) (ku : Nat → Int64) (qh : Nat) (qh1 : Nat) (qh2 : Nat) (zh : Int32) (gt : Nat → Int32) (gu : Nat → Int32) (qt : Nat) (qt1 : Nat) (zt : Int32) (kp : Nat → Int64) (p0 : Int32) (nm : Nat) (hnm : zm.toInt = nm) (hOm : okM nm kt ks kf kl) (hSr : srt nm kt) (hU : okU nm kt ks kf kl ku) (nh : Nat) (hnh : zh.toInt = nh) (hOh : okH nh gt gu) (nt : Nat) (hnt : zt.toInt = nt) (hOt : okT nt kp) : Met l yX3_drop wsX3_drop ({ frames := 5, cells := 0, slots := 0, locals := 132 }) (va_Pc [.ref qx, .int p0] (pre0 G cI cL [(qx, .inr (3, [.ref qm, .ref qh, .ref qt])), (qm, .inr (1, [.ref qm1, .ref qm2, .ref qm3, .ref qm4, .ref qm5, .int zm])), (qm1, .inl (cI, 40, .inl kt)), (qm2, .inl (cI, 40, .inl ks)), (qm3, .inl (cI, 40, .inl kf)), (qm4, .inl (cI, 40, .inl kl)), (qm5, .inl (cL, 40, .inr (.inl ku))), (qh, .inr (0, [.ref qh1, .ref qh2, .int zh])), (qh1, .inl (cI, 20, .inl gt)), (qh2, .inl (cI, 20, .inl gu)), (qt, .inr (2, [.ref qt1, .int zt])), (qt1, .inl (cL, 40, .inr (.inl kp)))] sz)) (va_Qi (fun (r : Int32) (u : Int32 × (Nat → Int32) × (Nat → Int32) × (Nat → Int32) × (Nat → Int32) × (Nat → Int64)) => ∃ n' : Nat, u.1.toInt = n' ∧ okM n' u.2.1 u.2.2.1 u.2.2.2.1 u.2.2.2.2.1 ∧ srt n' u.2.1 ∧ okU n' u.2.1 u.2.2.1 u.2.2.2.1 u.2.2.2.2.1 u.2.2.2.2.2 ∧ cDel nm kt ks kf kl p0 r.toInt n' u.2.1 u.2.2.1 u.2.2.2.1 u.2.2.2.2.1) (fun (u : Int32 × (Nat → Int32) × (Nat → Int32) × (Nat → Int32) × (Nat → Int32) × (Nat → Int64)) t => va_P G vwCl [(qx, .inr (3, [.ref qm, .ref qh, .ref qt])), (qm, .inr (1, [.ref qm1, .ref qm2, .ref qm3, .ref qm4, .ref qm5, .int u.1])), (qm1, .inl (cI, 40, .inl (u.2.1))), (qm2, .inl (cI, 40, .inl (u.2.2.1))), (qm3, .inl (cI, 40, .inl (u.2.2.2.1))), (qm4, .inl (cI, 40, .inl (u.2.2.2.2.1))), (qm5, .inl (cL, 40, .inr (.inl (u.2.2.2.2.2)))), (qh, .inr (0, [.ref qh1, .ref qh2, .int zh])), (qh1, .inl (cI, 20, .inl gt)), (qh2, .inl (cI, 20, .inl gu)), (qt, .inr (2, [.ref qt1, .int zt])), (qt1, .inl (cL, 40, .inr (.inl kp)))] t.heap ∧ va_D (va_A [(qx, .inr (3, [.ref qm, .ref qh, .ref qt])), (qm, .inr (1, [.ref qm1, .ref qm2, .ref qm3, .ref qm4, .ref qm5, .int zm])), (qm1, .inl (cI, 40, .inl kt)), (qm2, .inl (cI, 40, .inl ks)), (qm3, .inl (cI, 40, .inl kf)), (qm4, .inl (cI, 40, .inl kl)), (qm5, .inl (cL, 40, .inr (.inl ku))), (qh, .inr (0, [.ref qh1, .ref qh2, .int zh])), (qh1, .inl (cI, 20, .inl gt)), (qh2, .inl (cI, 20, .inl gu)), (qt, .inr (2, [.ref qt1, .int zt])), (qt1, .inl (cL, 40, .inr (.inl kp)))] sz) [(qx, .inr (3, [.ref qm, .ref qh, .ref qt])), (qm, .inr (1, [.ref qm1, .ref qm2, .ref qm3, .ref qm4, .ref qm5, .int u.1])), (qm1, .inl (cI, 40, .inl (u.2.1))), (qm2, .inl (cI, 40, .inl (u.2.2.1))), (qm3, .inl (cI, 40, .inl (u.2.2.2.1))), (qm4, .inl (cI, 40, .inl (u.2.2.2.2.1))), (qm5, .inl (cL, 40, .inr (.inl (u.2.2.2.2.2)))), (qh, .inr (0, [.ref qh1, .ref qh2, .int zh])), (qh1, .inl (cI, 20, .inl gt)), (qh2, .inl (cI, 20, .inl gu)), (qt, .inr (2, [.ref qt1, .int zt])), (qt1, .inl (cL, 40, .inr (.inl kp)))]) (va_A [(qx, .inr (3, [.ref qm, .ref qh, .ref qt])), (qm, .inr (1, [.ref qm1, .ref qm2, .ref qm3, .ref qm4, .ref qm5, .int zm])), (qm1, .inl (cI, 40, .inl kt)), (qm2, .inl (cI, 40, .inl ks)), (qm3, .inl (cI, 40, .inl kf)), (qm4, .inl (cI, 40, .inl kl)), (qm5, .inl (cL, 40, .inr (.inl ku))), (qh, .inr (0, [.ref qh1, .ref qh2, .int zh])), (qh1, .inl (cI, 20, .inl gt)), (qh2, .inl (cI, 20, .inl gu)), (qt, .inr (2, [.ref qt1, .int zt])), (qt1, .inl (cL, 40, .inr (.inl kp)))] sz)) 0 0 (va_A [(qx, .inr (3, [.ref qm, .ref qh, .ref qt])), (qm, .inr (1, [.ref qm1, .ref qm2, .ref qm3, .ref qm4, .ref qm5, .int zm])), (qm1, .inl (cI, 40, .inl kt)), (qm2, .inl (cI, 40, .inl ks)), (qm3, .inl (cI, 40, .inl kf)), (qm4, .inl (cI, 40, .inl kl)), (qm5, .inl (cL, 40, .inr (.inl ku))), (qh, .inr (0, [.ref qh1, .ref qh2, .int zh])), (qh1, .inl (cI, 20, .inl gt)), (qh2, .inl (cI, 20, .inl gu)), (qt, .inr (2, [.ref qt1, .int zt])), (qt1, .inl (cL, 40, .inr (.inl kp)))] sz) := by
  refine Met.ofW (cc := cX3_drop) (maxL := 2) (ret := (some .int)) (by decide) rfl ?_
  intro p e s m args below meth c s₁ B hml hv
  obtain ⟨rfl, hsz, hP, hK, hD0, hN⟩ := hv
  have hx := B.exec
  have hb := B.bytes
  have hr := B.returns
  have hts := atoms_spec (ws := wsX3_drop) B.pre
  have hown : s.vm.findClass RX3 = some m.cls := findClass_of_methodNamed B.named
  have hlocks := B.notSynchronized
  subst hsz
  have hD := hD0.self (sz := s.heap.size)
  generalize hAe : va_A [(qx, .inr (3, [.ref qm, .ref qh, .ref qt])), (qm, .inr (1, [.ref qm1, .ref qm2, .ref qm3, .ref qm4, .ref qm5, .int zm])), (qm1, .inl (cI, 40, .inl kt)), (qm2, .inl (cI, 40, .inl ks)), (qm3, .inl (cI, 40, .inl kf)), (qm4, .inl (cI, 40, .inl kl)), (qm5, .inl (cL, 40, .inr (.inl ku))), (qh, .inr (0, [.ref qh1, .ref qh2, .int zh])), (qh1, .inl (cI, 20, .inl gt)), (qh2, .inl (cI, 20, .inl gu)), (qt, .inr (2, [.ref qt1, .int zt])), (qt1, .inl (cL, 40, .inr (.inl kp)))] s.heap.size = A at hD ⊢
  have hA : ∀ q : Nat, s.heap.size ≤ q → A q := fun q h => by rw [← hAe]; exact Or.inr h
  have hP : va_P G vwCl [(qx, .inr (3, [.ref qm, .ref qh, .ref qt])), (qm, .inr (1, [.ref qm1, .ref qm2, .ref qm3, .ref qm4, .ref qm5, .int zm])), (qm1, .inl (cI, 40, .inl kt)), (qm2, .inl (cI, 40, .inl ks)), (qm3, .inl (cI, 40, .inl kf)), (qm4, .inl (cI, 40, .inl kl)), (qm5, .inl (cL, 40, .inr (.inl ku))), (qh, .inr (0, [.ref qh1, .ref qh2, .int zh])), (qh1, .inl (cI, 20, .inl gt)), (qh2, .inl (cI, 20, .inl gu)), (qt, .inr (2, [.ref qt1, .int zt])), (qt1, .inl (cL, 40, .inr (.inl kp)))] s.heap := hP
  have hl := lv_entry ([.ref qx, .int p0]) (n := 2) (Nat.le_of_ble_eq_true rfl)
  rw [lg_entry_eq]
  generalize (lg_sl ([.ref qx, .int p0]) ++ List.replicate (2 - (lg_sl ([.ref qx, .int p0])).length) Slot.unset).toArray = ls at hl ⊢
  have hl : lv_has ls 2 [(0, .ref qx), (1, .int p0)] := hl
  have hf10 := hts (.fieldLink RX3 10 "TempoMaps" "marks" "LTempoMaps$Marks;") (by decide +kernel)
  have hiX3 : ∀ w ∈ wsX30, w ∈ wsX3_drop := by decide +kernel
  refine w_h (A := A) hP (fun H locs hP hS => ?_)
  have hn40 := hOm.1
  have hrg := hOm.2.1
  have zz0 : ((0 : Int32)).toInt = 0 := by decide
  refine lv_aload_n hx hb dX3_drop_0 rfl (lv_at hl 0 rfl) ?_
  refine va_get (D := G) (ci := 3) (v := .ref qm) (C := RX3) (T := TX3) (N := 3) hx hb hts hiX3 hown hK hP 0 rfl rfl 0 (by decide) hf10 (fun _ h9 => h9) rfl dX3_drop_1 ?_
  refine lv_iload_n hx hb dX3_drop_4 rfl (lv_at hl 1 rfl) ?_
  have hPc := hP.sub (ws' := [(qm, .inr (1, [.ref qm1, .ref qm2, .ref qm3, .ref qm4, .ref qm5, .int zm])), (qm1, .inl (cI, 40, .inl kt)), (qm2, .inl (cI, 40, .inl ks)), (qm3, .inl (cI, 40, .inl kf)), (qm4, .inl (cI, 40, .inl kl)), (qm5, .inl (cL, 40, .inr (.inl ku)))]) [1, 2, 3, 4, 5, 6] rfl
  have hDc := hD.sub (ws' := [(qm, .inr (1, [.ref qm1, .ref qm2, .ref qm3, .ref qm4, .ref qm5, .int zm])), (qm1, .inl (cI, 40, .inl kt)), (qm2, .inl (cI, 40, .inl ks)), (qm3, .inl (cI, 40, .inl kf)), (qm4, .inl (cI, 40, .inl kl)), (qm5, .inl (cL, 40, .inr (.inl ku)))]) [1, 2, 3, 4, 5, 6] (by decide) rfl
  have hcc := (ct_X1_remove l G cI cL H.size qm qm1 qm2 qm3 qm4 qm5 zm kt ks kf kl ku p0 nm hnm hOm hSr hU)
  refine rw_calli (wr := [(qx, .inr (3, [.ref qm, .ref qh, .ref qt])), (qh, .inr (0, [.ref qh1, .ref qh2, .int zh])), (qh1, .inl (cI, 20, .inl gt)), (qh2, .inl (cI, 20, .inl gu)), (qt, .inr (2, [.ref qt1, .int zt])), (qt1, .inl (cL, 40, .inr (.inl kp)))]) (va_runV (As := [.int p0]) (rest := []) ⟨hx, hb, hml, hown, hts⟩ hcc (cwV 1 hts gX3_drop_X1_remove rfl rfl rfl (by decide +kernel) ⟨Nat.le_of_ble_eq_true rfl, Nat.le_of_ble_eq_true rfl⟩) ⟨pre_blind, va_recv hK hPc (ci := 1) (q0 := 0) rfl rfl, pre_pass hK hN hPc hDc⟩ rfl rfl hl.1 rfl (lv_room (Nat.le_of_ble_eq_true rfl)) dX3_drop_5 ⟨Nat.le_of_ble_eq_true rfl, Nat.le_of_ble_eq_true rfl⟩) hP hD hS hA [1, 2, 3, 4, 5, 6] [0, 7, 8, 9, 10, 11] rfl rfl (by decide) (by decide) (fun r5 u5 H locs hw5 hP hD hS => ?_)
  obtain ⟨zm5, kt5, ks5, kf5, kl5, ku5⟩ := u5
  have hP : va_P G vwCl [(qx, .inr (3, [.ref qm, .ref qh, .ref qt])), (qm, .inr (1, [.ref qm1, .ref qm2, .ref qm3, .ref qm4, .ref qm5, .int zm5])), (qm1, .inl (cI, 40, .inl kt5)), (qm2, .inl (cI, 40, .inl ks5)), (qm3, .inl (cI, 40, .inl kf5)), (qm4, .inl (cI, 40, .inl kl5)), (qm5, .inl (cL, 40, .inr (.inl ku5))), (qh, .inr (0, [.ref qh1, .ref qh2, .int zh])), (qh1, .inl (cI, 20, .inl gt)), (qh2, .inl (cI, 20, .inl gu)), (qt, .inr (2, [.ref qt1, .int zt])), (qt1, .inl (cL, 40, .inr (.inl kp)))] H := hP.sub [0, 6, 7, 8, 9, 10, 11, 1, 2, 3, 4, 5] rfl
  have hD : va_D A [(qx, .inr (3, [.ref qm, .ref qh, .ref qt])), (qm, .inr (1, [.ref qm1, .ref qm2, .ref qm3, .ref qm4, .ref qm5, .int zm5])), (qm1, .inl (cI, 40, .inl kt5)), (qm2, .inl (cI, 40, .inl ks5)), (qm3, .inl (cI, 40, .inl kf5)), (qm4, .inl (cI, 40, .inl kl5)), (qm5, .inl (cL, 40, .inr (.inl ku5))), (qh, .inr (0, [.ref qh1, .ref qh2, .int zh])), (qh1, .inl (cI, 20, .inl gt)), (qh2, .inl (cI, 20, .inl gu)), (qt, .inr (2, [.ref qt1, .int zt])), (qt1, .inl (cL, 40, .inr (.inl kp)))] := hD.sub [0, 6, 7, 8, 9, 10, 11, 1, 2, 3, 4, 5] (by decide) rfl
  try dsimp only at hw5
  obtain ⟨n5, a5, b5, c5, d5, e5⟩ := hw5
  exact W.iret (v := r5) hx hb hr (fun t ht hW => ⟨⟨r5, (zm5, kt5, ks5, kf5, kl5, ku5), rfl, (by (try dsimp only); exact ⟨n5, a5, c5, d5, e5, b5⟩), by rw [ht]; exact hP, hD⟩, hS.F ht⟩) hS.2.2 dX3_drop_8
set_option maxHeartbeats 1000000 in
set_option maxRecDepth 100000 in
theorem ct_X3_hold (l : Launch) (G : va_G) (cI cL : ClassId) (sz : Nat) (qx : Nat) (qm : Nat) (qm1 : Nat) (qm2 : Nat) (qm3 : Nat) (qm4 : Nat) (qm5 : Nat) (zm : Int32) (kt : Nat → Int32) (ks : Nat → Int32) (kf : Nat → Int32) (kl : Nat → Int32) (ku : Nat → Int64) (qh : Nat) (qh1 : Nat) (qh2 : Nat) (zh : Int32) (gt : Nat → Int32) (gu : Nat → Int32) (qt : Nat) (qt1 : Nat) (zt : Int32) (kp : Nat → Int64) (p0 : Int32) (p1 : Int32) (nm : Nat) (hnm : zm.toInt = nm) (hOm : okM nm kt ks kf kl) (hSr : srt nm kt) (hU : okU nm kt ks kf kl ku) (nh : Nat) (hnh : zh.toInt = nh) (hOh : okH nh gt gu) (nt : Nat) (hnt : zt.toInt = nt) (hOt : okT nt kp) : Met l yX3_hold wsX3_hold ({ frames := 2, cells := 0, slots := 0, locals := 45 }) (va_Pc [.ref qx, .int p0, .int p1] (pre0 G cI cL [(qx, .inr (3, [.ref qm, .ref qh, .ref qt])), (qm, .inr (1, [.ref qm1, .ref qm2, .ref qm3, .ref qm4, .ref qm5, .int zm])), (qm1, .inl (cI, 40, .inl kt)), (qm2, .inl (cI, 40, .inl ks)), (qm3, .inl (cI, 40, .inl kf)), (qm4, .inl (cI, 40, .inl kl)), (qm5, .inl (cL, 40, .inr (.inl ku))), (qh, .inr (0, [.ref qh1, .ref qh2, .int zh])), (qh1, .inl (cI, 20, .inl gt)), (qh2, .inl (cI, 20, .inl gu)), (qt, .inr (2, [.ref qt1, .int zt])), (qt1, .inl (cL, 40, .inr (.inl kp)))] sz)) (va_Qi (fun (r : Int32) (u : Int32 × (Nat → Int32) × (Nat → Int32)) => ∃ n' : Nat, u.1.toInt = n' ∧ hHold nh gt gu p0 p1 r.toInt n' u.2.1 u.2.2) (fun (u : Int32 × (Nat → Int32) × (Nat → Int32)) t => va_P G vwCl [(qx, .inr (3, [.ref qm, .ref qh, .ref qt])), (qm, .inr (1, [.ref qm1, .ref qm2, .ref qm3, .ref qm4, .ref qm5, .int zm])), (qm1, .inl (cI, 40, .inl kt)), (qm2, .inl (cI, 40, .inl ks)), (qm3, .inl (cI, 40, .inl kf)), (qm4, .inl (cI, 40, .inl kl)), (qm5, .inl (cL, 40, .inr (.inl ku))), (qh, .inr (0, [.ref qh1, .ref qh2, .int u.1])), (qh1, .inl (cI, 20, .inl (u.2.1))), (qh2, .inl (cI, 20, .inl (u.2.2))), (qt, .inr (2, [.ref qt1, .int zt])), (qt1, .inl (cL, 40, .inr (.inl kp)))] t.heap ∧ va_D (va_A [(qx, .inr (3, [.ref qm, .ref qh, .ref qt])), (qm, .inr (1, [.ref qm1, .ref qm2, .ref qm3, .ref qm4, .ref qm5, .int zm])), (qm1, .inl (cI, 40, .inl kt)), (qm2, .inl (cI, 40, .inl ks)), (qm3, .inl (cI, 40, .inl kf)), (qm4, .inl (cI, 40, .inl kl)), (qm5, .inl (cL, 40, .inr (.inl ku))), (qh, .inr (0, [.ref qh1, .ref qh2, .int zh])), (qh1, .inl (cI, 20, .inl gt)), (qh2, .inl (cI, 20, .inl gu)), (qt, .inr (2, [.ref qt1, .int zt])), (qt1, .inl (cL, 40, .inr (.inl kp)))] sz) [(qx, .inr (3, [.ref qm, .ref qh, .ref qt])), (qm, .inr (1, [.ref qm1, .ref qm2, .ref qm3, .ref qm4, .ref qm5, .int zm])), (qm1, .inl (cI, 40, .inl kt)), (qm2, .inl (cI, 40, .inl ks)), (qm3, .inl (cI, 40, .inl kf)), (qm4, .inl (cI, 40, .inl kl)), (qm5, .inl (cL, 40, .inr (.inl ku))), (qh, .inr (0, [.ref qh1, .ref qh2, .int u.1])), (qh1, .inl (cI, 20, .inl (u.2.1))), (qh2, .inl (cI, 20, .inl (u.2.2))), (qt, .inr (2, [.ref qt1, .int zt])), (qt1, .inl (cL, 40, .inr (.inl kp)))]) (va_A [(qx, .inr (3, [.ref qm, .ref qh, .ref qt])), (qm, .inr (1, [.ref qm1, .ref qm2, .ref qm3, .ref qm4, .ref qm5, .int zm])), (qm1, .inl (cI, 40, .inl kt)), (qm2, .inl (cI, 40, .inl ks)), (qm3, .inl (cI, 40, .inl kf)), (qm4, .inl (cI, 40, .inl kl)), (qm5, .inl (cL, 40, .inr (.inl ku))), (qh, .inr (0, [.ref qh1, .ref qh2, .int zh])), (qh1, .inl (cI, 20, .inl gt)), (qh2, .inl (cI, 20, .inl gu)), (qt, .inr (2, [.ref qt1, .int zt])), (qt1, .inl (cL, 40, .inr (.inl kp)))] sz)) 0 0 (va_A [(qx, .inr (3, [.ref qm, .ref qh, .ref qt])), (qm, .inr (1, [.ref qm1, .ref qm2, .ref qm3, .ref qm4, .ref qm5, .int zm])), (qm1, .inl (cI, 40, .inl kt)), (qm2, .inl (cI, 40, .inl ks)), (qm3, .inl (cI, 40, .inl kf)), (qm4, .inl (cI, 40, .inl kl)), (qm5, .inl (cL, 40, .inr (.inl ku))), (qh, .inr (0, [.ref qh1, .ref qh2, .int zh])), (qh1, .inl (cI, 20, .inl gt)), (qh2, .inl (cI, 20, .inl gu)), (qt, .inr (2, [.ref qt1, .int zt])), (qt1, .inl (cL, 40, .inr (.inl kp)))] sz) := by
  refine Met.ofW (cc := cX3_hold) (maxL := 3) (ret := (some .int)) (by decide) rfl ?_
  intro p e s m args below meth c s₁ B hml hv
  obtain ⟨rfl, hsz, hP, hK, hD0, hN⟩ := hv
  have hx := B.exec
  have hb := B.bytes
  have hr := B.returns
  have hts := atoms_spec (ws := wsX3_hold) B.pre
  have hown : s.vm.findClass RX3 = some m.cls := findClass_of_methodNamed B.named
  have hlocks := B.notSynchronized
  subst hsz
  have hD := hD0.self (sz := s.heap.size)
  generalize hAe : va_A [(qx, .inr (3, [.ref qm, .ref qh, .ref qt])), (qm, .inr (1, [.ref qm1, .ref qm2, .ref qm3, .ref qm4, .ref qm5, .int zm])), (qm1, .inl (cI, 40, .inl kt)), (qm2, .inl (cI, 40, .inl ks)), (qm3, .inl (cI, 40, .inl kf)), (qm4, .inl (cI, 40, .inl kl)), (qm5, .inl (cL, 40, .inr (.inl ku))), (qh, .inr (0, [.ref qh1, .ref qh2, .int zh])), (qh1, .inl (cI, 20, .inl gt)), (qh2, .inl (cI, 20, .inl gu)), (qt, .inr (2, [.ref qt1, .int zt])), (qt1, .inl (cL, 40, .inr (.inl kp)))] s.heap.size = A at hD ⊢
  have hA : ∀ q : Nat, s.heap.size ≤ q → A q := fun q h => by rw [← hAe]; exact Or.inr h
  have hP : va_P G vwCl [(qx, .inr (3, [.ref qm, .ref qh, .ref qt])), (qm, .inr (1, [.ref qm1, .ref qm2, .ref qm3, .ref qm4, .ref qm5, .int zm])), (qm1, .inl (cI, 40, .inl kt)), (qm2, .inl (cI, 40, .inl ks)), (qm3, .inl (cI, 40, .inl kf)), (qm4, .inl (cI, 40, .inl kl)), (qm5, .inl (cL, 40, .inr (.inl ku))), (qh, .inr (0, [.ref qh1, .ref qh2, .int zh])), (qh1, .inl (cI, 20, .inl gt)), (qh2, .inl (cI, 20, .inl gu)), (qt, .inr (2, [.ref qt1, .int zt])), (qt1, .inl (cL, 40, .inr (.inl kp)))] s.heap := hP
  have hl := lv_entry ([.ref qx, .int p0, .int p1]) (n := 3) (Nat.le_of_ble_eq_true rfl)
  rw [lg_entry_eq]
  generalize (lg_sl ([.ref qx, .int p0, .int p1]) ++ List.replicate (3 - (lg_sl ([.ref qx, .int p0, .int p1])).length) Slot.unset).toArray = ls at hl ⊢
  have hl : lv_has ls 3 [(0, .ref qx), (1, .int p0), (2, .int p1)] := hl
  have hf19 := hts (.fieldLink RX3 19 "TempoMaps" "holds" "LTempoMaps$Holds;") (by decide +kernel)
  have hiX3 : ∀ w ∈ wsX30, w ∈ wsX3_hold := by decide +kernel
  have zim2 : ((-2 : Int32)).toInt = -2 := by decide
  have zi0 : ((0 : Int32)).toInt = 0 := by decide
  have zi1000000 : ((1000000 : Int32)).toInt = 1000000 := by decide
  have zi1000000000 : ((1000000000 : Int32)).toInt = 1000000000 := by decide
  refine w_h (A := A) hP (fun H locs hP hS => ?_)
  have hn40 := hOm.1
  have hrg := hOm.2.1
  have zz0 : ((0 : Int32)).toInt = 0 := by decide
  refine lv_iload_n hx hb dX3_hold_0 rfl (lv_at hl 1 rfl) ?_
  refine lv_iconst (v := 0) hx hb dX3_hold_1 (by decide) ?_
  refine lv_ldc (v := 1000000) hx hb hown (hts (.constant RX3 35 1000000) (by decide +kernel)) dX3_hold_2 ?_
  have hPc := hP.sub (ws' := ([] : va_W)) [] rfl
  have hDc := hD.sub (ws' := ([] : va_W)) [] (by decide) rfl
  have hcc := (ct_X3_isWithin l G cI cL H.size p0 0 1000000)
  refine ro_calli (va_runS (As := [.int p0, .int 0, .int 1000000]) (rest := []) ⟨hx, hb, hml, hown, hts⟩ hcc (va_cwS 3 hts gX3_hold_X3_isWithin rfl rfl rfl (by decide +kernel) ⟨Nat.le_of_ble_eq_true rfl, Nat.le_of_ble_eq_true rfl⟩) ⟨pre_blind, pre_pass hK hN hPc hDc⟩ rfl rfl hl.1 rfl (lv_room (Nat.le_of_ble_eq_true rfl)) dX3_hold_4 ⟨Nat.le_of_ble_eq_true rfl, Nat.le_of_ble_eq_true rfl⟩) hP hD hS hA [] rfl (fun r4 H locs hw4 hP hS => ?_)
  try dsimp only at hw4
  refine lv_if_eq (tgt := 20) hx hb dX3_hold_7 (by decide) (fun c7 => ?_) (fun c7 => ?_)
  · have k7 : (r4.toInt : Int) = 0 := i_eq rfl (show ((0 : Int32)).toInt = 0 by decide) c7
    refine lv_bipush (v := (-2)) hx hb dX3_hold_20 (by decide) ?_
    exact W.iret (v := (-2)) hx hb hr (fun t ht hW => ⟨⟨(-2), (zh, gt, gu), rfl, (by (try dsimp only); exact ⟨nh, hnh, Or.inl ⟨by omega, by omega, rfl, rfl, rfl⟩⟩), by rw [ht]; exact hP, hD⟩, hS.F ht⟩) hS.2.2 dX3_hold_22
  · have k7 : (r4.toInt : Int) ≠ 0 := i_ne rfl (show ((0 : Int32)).toInt = 0 by decide) c7
    refine lv_iload_n hx hb dX3_hold_10 rfl (lv_at hl 2 rfl) ?_
    refine lv_iconst (v := 0) hx hb dX3_hold_11 (by decide) ?_
    refine lv_ldc (v := 1000000000) hx hb hown (hts (.constant RX3 59 1000000000) (by decide +kernel)) dX3_hold_12 ?_
    have hPc := hP.sub (ws' := ([] : va_W)) [] rfl
    have hDc := hD.sub (ws' := ([] : va_W)) [] (by decide) rfl
    have hcc := (ct_X3_isWithin l G cI cL H.size p1 0 1000000000)
    refine ro_calli (va_runS (As := [.int p1, .int 0, .int 1000000000]) (rest := []) ⟨hx, hb, hml, hown, hts⟩ hcc (va_cwS 3 hts gX3_hold_X3_isWithin rfl rfl rfl (by decide +kernel) ⟨Nat.le_of_ble_eq_true rfl, Nat.le_of_ble_eq_true rfl⟩) ⟨pre_blind, pre_pass hK hN hPc hDc⟩ rfl rfl hl.1 rfl (lv_room (Nat.le_of_ble_eq_true rfl)) dX3_hold_14 ⟨Nat.le_of_ble_eq_true rfl, Nat.le_of_ble_eq_true rfl⟩) hP hD hS hA [] rfl (fun r14 H locs hw14 hP hS => ?_)
    try dsimp only at hw14
    refine lv_if_ne (tgt := 23) hx hb dX3_hold_17 (by decide) (fun c17 => ?_) (fun c17 => ?_)
    · have k17 : (r14.toInt : Int) ≠ 0 := i_ne rfl (show ((0 : Int32)).toInt = 0 by decide) c17
      refine lv_iload_n hx hb dX3_hold_23 rfl (lv_at hl 2 rfl) ?_
      refine lv_if_ne (tgt := 38) hx hb dX3_hold_24 (by decide) (fun c24 => ?_) (fun c24 => ?_)
      · have k24 : (p1.toInt : Int) ≠ 0 := i_ne rfl (show ((0 : Int32)).toInt = 0 by decide) c24
        refine lv_aload_n hx hb dX3_hold_38 rfl (lv_at hl 0 rfl) ?_
        refine va_get (D := G) (ci := 3) (v := .ref qh) (C := RX3) (T := TX3) (N := 3) hx hb hts hiX3 hown hK hP 0 rfl rfl 1 (by decide) hf19 (fun _ h9 => h9) rfl dX3_hold_39 ?_
        refine lv_iload_n hx hb dX3_hold_42 rfl (lv_at hl 1 rfl) ?_
        refine lv_iload_n hx hb dX3_hold_43 rfl (lv_at hl 2 rfl) ?_
        have hPc := hP.sub (ws' := [(qh, .inr (0, [.ref qh1, .ref qh2, .int zh])), (qh1, .inl (cI, 20, .inl gt)), (qh2, .inl (cI, 20, .inl gu))]) [7, 8, 9] rfl
        have hDc := hD.sub (ws' := [(qh, .inr (0, [.ref qh1, .ref qh2, .int zh])), (qh1, .inl (cI, 20, .inl gt)), (qh2, .inl (cI, 20, .inl gu))]) [7, 8, 9] (by decide) rfl
        have hcc := (ct_X0_put l G cI cL H.size qh qh1 qh2 zh gt gu p0 p1 nh hnh hOh)
        refine rw_calli (wr := [(qx, .inr (3, [.ref qm, .ref qh, .ref qt])), (qm, .inr (1, [.ref qm1, .ref qm2, .ref qm3, .ref qm4, .ref qm5, .int zm])), (qm1, .inl (cI, 40, .inl kt)), (qm2, .inl (cI, 40, .inl ks)), (qm3, .inl (cI, 40, .inl kf)), (qm4, .inl (cI, 40, .inl kl)), (qm5, .inl (cL, 40, .inr (.inl ku))), (qt, .inr (2, [.ref qt1, .int zt])), (qt1, .inl (cL, 40, .inr (.inl kp)))]) (va_runV (As := [.int p0, .int p1]) (rest := []) ⟨hx, hb, hml, hown, hts⟩ hcc (cwV 2 hts gX3_hold_X0_put rfl rfl rfl (by decide +kernel) ⟨Nat.le_of_ble_eq_true rfl, Nat.le_of_ble_eq_true rfl⟩) ⟨pre_blind, va_recv hK hPc (ci := 0) (q0 := 0) rfl rfl, pre_pass hK hN hPc hDc⟩ rfl rfl hl.1 rfl (lv_room (Nat.le_of_ble_eq_true rfl)) dX3_hold_44 ⟨Nat.le_of_ble_eq_true rfl, Nat.le_of_ble_eq_true rfl⟩) hP hD hS hA [7, 8, 9] [0, 1, 2, 3, 4, 5, 6, 10, 11] rfl rfl (by decide) (by decide) (fun r44 u44 H locs hw44 hP hD hS => ?_)
        obtain ⟨zh44, gt44, gu44⟩ := u44
        have hP : va_P G vwCl [(qx, .inr (3, [.ref qm, .ref qh, .ref qt])), (qm, .inr (1, [.ref qm1, .ref qm2, .ref qm3, .ref qm4, .ref qm5, .int zm])), (qm1, .inl (cI, 40, .inl kt)), (qm2, .inl (cI, 40, .inl ks)), (qm3, .inl (cI, 40, .inl kf)), (qm4, .inl (cI, 40, .inl kl)), (qm5, .inl (cL, 40, .inr (.inl ku))), (qh, .inr (0, [.ref qh1, .ref qh2, .int zh44])), (qh1, .inl (cI, 20, .inl gt44)), (qh2, .inl (cI, 20, .inl gu44)), (qt, .inr (2, [.ref qt1, .int zt])), (qt1, .inl (cL, 40, .inr (.inl kp)))] H := hP.sub [0, 1, 2, 3, 4, 5, 6, 9, 10, 11, 7, 8] rfl
        have hD : va_D A [(qx, .inr (3, [.ref qm, .ref qh, .ref qt])), (qm, .inr (1, [.ref qm1, .ref qm2, .ref qm3, .ref qm4, .ref qm5, .int zm])), (qm1, .inl (cI, 40, .inl kt)), (qm2, .inl (cI, 40, .inl ks)), (qm3, .inl (cI, 40, .inl kf)), (qm4, .inl (cI, 40, .inl kl)), (qm5, .inl (cL, 40, .inr (.inl ku))), (qh, .inr (0, [.ref qh1, .ref qh2, .int zh44])), (qh1, .inl (cI, 20, .inl gt44)), (qh2, .inl (cI, 20, .inl gu44)), (qt, .inr (2, [.ref qt1, .int zt])), (qt1, .inl (cL, 40, .inr (.inl kp)))] := hD.sub [0, 1, 2, 3, 4, 5, 6, 9, 10, 11, 7, 8] (by decide) rfl
        try dsimp only at hw44
        exact W.iret (v := r44) hx hb hr (fun t ht hW => ⟨⟨r44, (zh44, gt44, gu44), rfl, (by (try dsimp only); exact (by first | (obtain ⟨n9, a9, b9⟩ := hw32; exact ⟨n9, a9, Or.inr (Or.inl ⟨by omega, b9⟩)⟩) | (obtain ⟨n9, a9, b9⟩ := hw44; exact ⟨n9, a9, Or.inr (Or.inr ⟨by omega, b9⟩)⟩))), by rw [ht]; exact hP, hD⟩, hS.F ht⟩) hS.2.2 dX3_hold_47
      · have k24 : (p1.toInt : Int) = 0 := i_eq rfl (show ((0 : Int32)).toInt = 0 by decide) c24
        refine lv_aload_n hx hb dX3_hold_27 rfl (lv_at hl 0 rfl) ?_
        refine va_get (D := G) (ci := 3) (v := .ref qh) (C := RX3) (T := TX3) (N := 3) hx hb hts hiX3 hown hK hP 0 rfl rfl 1 (by decide) hf19 (fun _ h9 => h9) rfl dX3_hold_28 ?_
        refine lv_iload_n hx hb dX3_hold_31 rfl (lv_at hl 1 rfl) ?_
        have hPc := hP.sub (ws' := [(qh, .inr (0, [.ref qh1, .ref qh2, .int zh])), (qh1, .inl (cI, 20, .inl gt)), (qh2, .inl (cI, 20, .inl gu))]) [7, 8, 9] rfl
        have hDc := hD.sub (ws' := [(qh, .inr (0, [.ref qh1, .ref qh2, .int zh])), (qh1, .inl (cI, 20, .inl gt)), (qh2, .inl (cI, 20, .inl gu))]) [7, 8, 9] (by decide) rfl
        have hcc := (ct_X0_remove l G cI cL H.size qh qh1 qh2 zh gt gu p0 nh hnh hOh)
        refine rw_calli (wr := [(qx, .inr (3, [.ref qm, .ref qh, .ref qt])), (qm, .inr (1, [.ref qm1, .ref qm2, .ref qm3, .ref qm4, .ref qm5, .int zm])), (qm1, .inl (cI, 40, .inl kt)), (qm2, .inl (cI, 40, .inl ks)), (qm3, .inl (cI, 40, .inl kf)), (qm4, .inl (cI, 40, .inl kl)), (qm5, .inl (cL, 40, .inr (.inl ku))), (qt, .inr (2, [.ref qt1, .int zt])), (qt1, .inl (cL, 40, .inr (.inl kp)))]) (va_runV (As := [.int p0]) (rest := []) ⟨hx, hb, hml, hown, hts⟩ hcc (cwV 1 hts gX3_hold_X0_remove rfl rfl rfl (by decide +kernel) ⟨Nat.le_of_ble_eq_true rfl, Nat.le_of_ble_eq_true rfl⟩) ⟨pre_blind, va_recv hK hPc (ci := 0) (q0 := 0) rfl rfl, pre_pass hK hN hPc hDc⟩ rfl rfl hl.1 rfl (lv_room (Nat.le_of_ble_eq_true rfl)) dX3_hold_32 ⟨Nat.le_of_ble_eq_true rfl, Nat.le_of_ble_eq_true rfl⟩) hP hD hS hA [7, 8, 9] [0, 1, 2, 3, 4, 5, 6, 10, 11] rfl rfl (by decide) (by decide) (fun r32 u32 H locs hw32 hP hD hS => ?_)
        obtain ⟨zh32, gt32, gu32⟩ := u32
        have hP : va_P G vwCl [(qx, .inr (3, [.ref qm, .ref qh, .ref qt])), (qm, .inr (1, [.ref qm1, .ref qm2, .ref qm3, .ref qm4, .ref qm5, .int zm])), (qm1, .inl (cI, 40, .inl kt)), (qm2, .inl (cI, 40, .inl ks)), (qm3, .inl (cI, 40, .inl kf)), (qm4, .inl (cI, 40, .inl kl)), (qm5, .inl (cL, 40, .inr (.inl ku))), (qh, .inr (0, [.ref qh1, .ref qh2, .int zh32])), (qh1, .inl (cI, 20, .inl gt32)), (qh2, .inl (cI, 20, .inl gu32)), (qt, .inr (2, [.ref qt1, .int zt])), (qt1, .inl (cL, 40, .inr (.inl kp)))] H := hP.sub [0, 1, 2, 3, 4, 5, 6, 9, 10, 11, 7, 8] rfl
        have hD : va_D A [(qx, .inr (3, [.ref qm, .ref qh, .ref qt])), (qm, .inr (1, [.ref qm1, .ref qm2, .ref qm3, .ref qm4, .ref qm5, .int zm])), (qm1, .inl (cI, 40, .inl kt)), (qm2, .inl (cI, 40, .inl ks)), (qm3, .inl (cI, 40, .inl kf)), (qm4, .inl (cI, 40, .inl kl)), (qm5, .inl (cL, 40, .inr (.inl ku))), (qh, .inr (0, [.ref qh1, .ref qh2, .int zh32])), (qh1, .inl (cI, 20, .inl gt32)), (qh2, .inl (cI, 20, .inl gu32)), (qt, .inr (2, [.ref qt1, .int zt])), (qt1, .inl (cL, 40, .inr (.inl kp)))] := hD.sub [0, 1, 2, 3, 4, 5, 6, 9, 10, 11, 7, 8] (by decide) rfl
        try dsimp only at hw32
        refine lv_goto (tgt := 47) hx hb dX3_hold_35 (by decide) ?_
        exact W.iret (v := r32) hx hb hr (fun t ht hW => ⟨⟨r32, (zh32, gt32, gu32), rfl, (by (try dsimp only); exact (by first | (obtain ⟨n9, a9, b9⟩ := hw32; exact ⟨n9, a9, Or.inr (Or.inl ⟨by omega, b9⟩)⟩) | (obtain ⟨n9, a9, b9⟩ := hw44; exact ⟨n9, a9, Or.inr (Or.inr ⟨by omega, b9⟩)⟩))), by rw [ht]; exact hP, hD⟩, hS.F ht⟩) hS.2.2 dX3_hold_47
    · have k17 : (r14.toInt : Int) = 0 := i_eq rfl (show ((0 : Int32)).toInt = 0 by decide) c17
      refine lv_bipush (v := (-2)) hx hb dX3_hold_20 (by decide) ?_
      exact W.iret (v := (-2)) hx hb hr (fun t ht hW => ⟨⟨(-2), (zh, gt, gu), rfl, (by (try dsimp only); exact ⟨nh, hnh, Or.inl ⟨by omega, by omega, rfl, rfl, rfl⟩⟩), by rw [ht]; exact hP, hD⟩, hS.F ht⟩) hS.2.2 dX3_hold_22
set_option maxHeartbeats 1000000 in
set_option maxRecDepth 100000 in
theorem ct_X3_mark (l : Launch) (G : va_G) (cI cL : ClassId) (sz : Nat) (qx : Nat) (qm : Nat) (qm1 : Nat) (qm2 : Nat) (qm3 : Nat) (qm4 : Nat) (qm5 : Nat) (zm : Int32) (kt : Nat → Int32) (ks : Nat → Int32) (kf : Nat → Int32) (kl : Nat → Int32) (ku : Nat → Int64) (qh : Nat) (qh1 : Nat) (qh2 : Nat) (zh : Int32) (gt : Nat → Int32) (gu : Nat → Int32) (qt : Nat) (qt1 : Nat) (zt : Int32) (kp : Nat → Int64) (p0 : Int32) (p1 : Int32) (nm : Nat) (hnm : zm.toInt = nm) (hOm : okM nm kt ks kf kl) (hSr : srt nm kt) (hU : okU nm kt ks kf kl ku) (nh : Nat) (hnh : zh.toInt = nh) (hOh : okH nh gt gu) (nt : Nat) (hnt : zt.toInt = nt) (hOt : okT nt kp) : Met l yX3_mark wsX3_mark ({ frames := 1, cells := 0, slots := 0, locals := 22 }) (va_Pc [.ref qx, .int p0, .int p1] (pre0 G cI cL [(qx, .inr (3, [.ref qm, .ref qh, .ref qt])), (qm, .inr (1, [.ref qm1, .ref qm2, .ref qm3, .ref qm4, .ref qm5, .int zm])), (qm1, .inl (cI, 40, .inl kt)), (qm2, .inl (cI, 40, .inl ks)), (qm3, .inl (cI, 40, .inl kf)), (qm4, .inl (cI, 40, .inl kl)), (qm5, .inl (cL, 40, .inr (.inl ku))), (qh, .inr (0, [.ref qh1, .ref qh2, .int zh])), (qh1, .inl (cI, 20, .inl gt)), (qh2, .inl (cI, 20, .inl gu)), (qt, .inr (2, [.ref qt1, .int zt])), (qt1, .inl (cL, 40, .inr (.inl kp)))] sz)) (va_Qi (fun (r : Int32) (u : Unit) => ((p1.toInt < 0 ∨ 4 < p1.toInt) ∧ r.toInt = -2) ∨ ((0 ≤ p1.toInt ∧ p1.toInt ≤ 4) ∧ (((p0.toInt < 0 ∨ nm ≤ p0.toInt) ∧ r.toInt = -1) ∨ (0 ≤ p0.toInt ∧ p0.toInt < nm ∧ r.toInt = tellV kt ks kf kl p0.toInt.toNat p1.toInt)))) (fun (u : Unit) t => va_P G vwCl [(qx, .inr (3, [.ref qm, .ref qh, .ref qt])), (qm, .inr (1, [.ref qm1, .ref qm2, .ref qm3, .ref qm4, .ref qm5, .int zm])), (qm1, .inl (cI, 40, .inl kt)), (qm2, .inl (cI, 40, .inl ks)), (qm3, .inl (cI, 40, .inl kf)), (qm4, .inl (cI, 40, .inl kl)), (qm5, .inl (cL, 40, .inr (.inl ku))), (qh, .inr (0, [.ref qh1, .ref qh2, .int zh])), (qh1, .inl (cI, 20, .inl gt)), (qh2, .inl (cI, 20, .inl gu)), (qt, .inr (2, [.ref qt1, .int zt])), (qt1, .inl (cL, 40, .inr (.inl kp)))] t.heap ∧ va_D (va_A [(qx, .inr (3, [.ref qm, .ref qh, .ref qt])), (qm, .inr (1, [.ref qm1, .ref qm2, .ref qm3, .ref qm4, .ref qm5, .int zm])), (qm1, .inl (cI, 40, .inl kt)), (qm2, .inl (cI, 40, .inl ks)), (qm3, .inl (cI, 40, .inl kf)), (qm4, .inl (cI, 40, .inl kl)), (qm5, .inl (cL, 40, .inr (.inl ku))), (qh, .inr (0, [.ref qh1, .ref qh2, .int zh])), (qh1, .inl (cI, 20, .inl gt)), (qh2, .inl (cI, 20, .inl gu)), (qt, .inr (2, [.ref qt1, .int zt])), (qt1, .inl (cL, 40, .inr (.inl kp)))] sz) [(qx, .inr (3, [.ref qm, .ref qh, .ref qt])), (qm, .inr (1, [.ref qm1, .ref qm2, .ref qm3, .ref qm4, .ref qm5, .int zm])), (qm1, .inl (cI, 40, .inl kt)), (qm2, .inl (cI, 40, .inl ks)), (qm3, .inl (cI, 40, .inl kf)), (qm4, .inl (cI, 40, .inl kl)), (qm5, .inl (cL, 40, .inr (.inl ku))), (qh, .inr (0, [.ref qh1, .ref qh2, .int zh])), (qh1, .inl (cI, 20, .inl gt)), (qh2, .inl (cI, 20, .inl gu)), (qt, .inr (2, [.ref qt1, .int zt])), (qt1, .inl (cL, 40, .inr (.inl kp)))]) (va_A [(qx, .inr (3, [.ref qm, .ref qh, .ref qt])), (qm, .inr (1, [.ref qm1, .ref qm2, .ref qm3, .ref qm4, .ref qm5, .int zm])), (qm1, .inl (cI, 40, .inl kt)), (qm2, .inl (cI, 40, .inl ks)), (qm3, .inl (cI, 40, .inl kf)), (qm4, .inl (cI, 40, .inl kl)), (qm5, .inl (cL, 40, .inr (.inl ku))), (qh, .inr (0, [.ref qh1, .ref qh2, .int zh])), (qh1, .inl (cI, 20, .inl gt)), (qh2, .inl (cI, 20, .inl gu)), (qt, .inr (2, [.ref qt1, .int zt])), (qt1, .inl (cL, 40, .inr (.inl kp)))] sz)) 0 0 (va_A [(qx, .inr (3, [.ref qm, .ref qh, .ref qt])), (qm, .inr (1, [.ref qm1, .ref qm2, .ref qm3, .ref qm4, .ref qm5, .int zm])), (qm1, .inl (cI, 40, .inl kt)), (qm2, .inl (cI, 40, .inl ks)), (qm3, .inl (cI, 40, .inl kf)), (qm4, .inl (cI, 40, .inl kl)), (qm5, .inl (cL, 40, .inr (.inl ku))), (qh, .inr (0, [.ref qh1, .ref qh2, .int zh])), (qh1, .inl (cI, 20, .inl gt)), (qh2, .inl (cI, 20, .inl gu)), (qt, .inr (2, [.ref qt1, .int zt])), (qt1, .inl (cL, 40, .inr (.inl kp)))] sz) := by
  refine Met.ofW (cc := cX3_mark) (maxL := 3) (ret := (some .int)) (by decide) rfl ?_
  intro p e s m args below meth c s₁ B hml hv
  obtain ⟨rfl, hsz, hP, hK, hD0, hN⟩ := hv
  have hx := B.exec
  have hb := B.bytes
  have hr := B.returns
  have hts := atoms_spec (ws := wsX3_mark) B.pre
  have hown : s.vm.findClass RX3 = some m.cls := findClass_of_methodNamed B.named
  have hlocks := B.notSynchronized
  subst hsz
  have hD := hD0.self (sz := s.heap.size)
  generalize hAe : va_A [(qx, .inr (3, [.ref qm, .ref qh, .ref qt])), (qm, .inr (1, [.ref qm1, .ref qm2, .ref qm3, .ref qm4, .ref qm5, .int zm])), (qm1, .inl (cI, 40, .inl kt)), (qm2, .inl (cI, 40, .inl ks)), (qm3, .inl (cI, 40, .inl kf)), (qm4, .inl (cI, 40, .inl kl)), (qm5, .inl (cL, 40, .inr (.inl ku))), (qh, .inr (0, [.ref qh1, .ref qh2, .int zh])), (qh1, .inl (cI, 20, .inl gt)), (qh2, .inl (cI, 20, .inl gu)), (qt, .inr (2, [.ref qt1, .int zt])), (qt1, .inl (cL, 40, .inr (.inl kp)))] s.heap.size = A at hD ⊢
  have hA : ∀ q : Nat, s.heap.size ≤ q → A q := fun q h => by rw [← hAe]; exact Or.inr h
  have hP : va_P G vwCl [(qx, .inr (3, [.ref qm, .ref qh, .ref qt])), (qm, .inr (1, [.ref qm1, .ref qm2, .ref qm3, .ref qm4, .ref qm5, .int zm])), (qm1, .inl (cI, 40, .inl kt)), (qm2, .inl (cI, 40, .inl ks)), (qm3, .inl (cI, 40, .inl kf)), (qm4, .inl (cI, 40, .inl kl)), (qm5, .inl (cL, 40, .inr (.inl ku))), (qh, .inr (0, [.ref qh1, .ref qh2, .int zh])), (qh1, .inl (cI, 20, .inl gt)), (qh2, .inl (cI, 20, .inl gu)), (qt, .inr (2, [.ref qt1, .int zt])), (qt1, .inl (cL, 40, .inr (.inl kp)))] s.heap := hP
  have hl := lv_entry ([.ref qx, .int p0, .int p1]) (n := 3) (Nat.le_of_ble_eq_true rfl)
  rw [lg_entry_eq]
  generalize (lg_sl ([.ref qx, .int p0, .int p1]) ++ List.replicate (3 - (lg_sl ([.ref qx, .int p0, .int p1])).length) Slot.unset).toArray = ls at hl ⊢
  have hl : lv_has ls 3 [(0, .ref qx), (1, .int p0), (2, .int p1)] := hl
  have hf10 := hts (.fieldLink RX3 10 "TempoMaps" "marks" "LTempoMaps$Marks;") (by decide +kernel)
  have hiX3 : ∀ w ∈ wsX30, w ∈ wsX3_mark := by decide +kernel
  have zim2 : ((-2 : Int32)).toInt = -2 := by decide
  have zi0 : ((0 : Int32)).toInt = 0 := by decide
  have zi4 : ((4 : Int32)).toInt = 4 := by decide
  refine w_h (A := A) hP (fun H locs hP hS => ?_)
  have hn40 := hOm.1
  have hrg := hOm.2.1
  have zz0 : ((0 : Int32)).toInt = 0 := by decide
  refine lv_iload_n hx hb dX3_mark_0 rfl (lv_at hl 2 rfl) ?_
  refine lv_iconst (v := 0) hx hb dX3_mark_1 (by decide) ?_
  refine lv_iconst (v := 4) hx hb dX3_mark_2 (by decide) ?_
  have hPc := hP.sub (ws' := ([] : va_W)) [] rfl
  have hDc := hD.sub (ws' := ([] : va_W)) [] (by decide) rfl
  have hcc := (ct_X3_isWithin l G cI cL H.size p1 0 4)
  refine ro_calli (va_runS (As := [.int p1, .int 0, .int 4]) (rest := []) ⟨hx, hb, hml, hown, hts⟩ hcc (va_cwS 3 hts gX3_mark_X3_isWithin rfl rfl rfl (by decide +kernel) ⟨Nat.le_of_ble_eq_true rfl, Nat.le_of_ble_eq_true rfl⟩) ⟨pre_blind, pre_pass hK hN hPc hDc⟩ rfl rfl hl.1 rfl (lv_room (Nat.le_of_ble_eq_true rfl)) dX3_mark_3 ⟨Nat.le_of_ble_eq_true rfl, Nat.le_of_ble_eq_true rfl⟩) hP hD hS hA [] rfl (fun r3 H locs hw3 hP hS => ?_)
  try dsimp only at hw3
  refine lv_if_ne (tgt := 12) hx hb dX3_mark_6 (by decide) (fun c6 => ?_) (fun c6 => ?_)
  · have k6 : (r3.toInt : Int) ≠ 0 := i_ne rfl (show ((0 : Int32)).toInt = 0 by decide) c6
    refine lv_aload_n hx hb dX3_mark_12 rfl (lv_at hl 0 rfl) ?_
    refine va_get (D := G) (ci := 3) (v := .ref qm) (C := RX3) (T := TX3) (N := 3) hx hb hts hiX3 hown hK hP 0 rfl rfl 0 (by decide) hf10 (fun _ h9 => h9) rfl dX3_mark_13 ?_
    refine lv_iload_n hx hb dX3_mark_16 rfl (lv_at hl 1 rfl) ?_
    refine lv_iload_n hx hb dX3_mark_17 rfl (lv_at hl 2 rfl) ?_
    have hPc := hP.sub (ws' := [(qm, .inr (1, [.ref qm1, .ref qm2, .ref qm3, .ref qm4, .ref qm5, .int zm])), (qm1, .inl (cI, 40, .inl kt)), (qm2, .inl (cI, 40, .inl ks)), (qm3, .inl (cI, 40, .inl kf)), (qm4, .inl (cI, 40, .inl kl)), (qm5, .inl (cL, 40, .inr (.inl ku)))]) [1, 2, 3, 4, 5, 6] rfl
    have hDc := hD.sub (ws' := [(qm, .inr (1, [.ref qm1, .ref qm2, .ref qm3, .ref qm4, .ref qm5, .int zm])), (qm1, .inl (cI, 40, .inl kt)), (qm2, .inl (cI, 40, .inl ks)), (qm3, .inl (cI, 40, .inl kf)), (qm4, .inl (cI, 40, .inl kl)), (qm5, .inl (cL, 40, .inr (.inl ku)))]) [1, 2, 3, 4, 5, 6] (by decide) rfl
    have hcc := (ct_X1_tell l G cI cL H.size qm qm1 qm2 qm3 qm4 qm5 zm kt ks kf kl ku p0 p1 nm hnm hOm (by omega))
    refine ro_calli (va_runV (As := [.int p0, .int p1]) (rest := []) ⟨hx, hb, hml, hown, hts⟩ hcc (cwV 2 hts gX3_mark_X1_tell rfl rfl rfl (by decide +kernel) ⟨Nat.le_of_ble_eq_true rfl, Nat.le_of_ble_eq_true rfl⟩) ⟨pre_blind, va_recv hK hPc (ci := 1) (q0 := 0) rfl rfl, pre_pass hK hN hPc hDc⟩ rfl rfl hl.1 rfl (lv_room (Nat.le_of_ble_eq_true rfl)) dX3_mark_18 ⟨Nat.le_of_ble_eq_true rfl, Nat.le_of_ble_eq_true rfl⟩) hP hD hS hA [1, 2, 3, 4, 5, 6] rfl (fun r18 H locs hw18 hP hS => ?_)
    try dsimp only at hw18
    exact W.iret (v := r18) hx hb hr (fun t ht hW => ⟨⟨r18, (), rfl, (by (try dsimp only); exact (Or.inr ⟨by omega, hw18⟩)), by rw [ht]; exact hP, hD⟩, hS.F ht⟩) hS.2.2 dX3_mark_21
  · have k6 : (r3.toInt : Int) = 0 := i_eq rfl (show ((0 : Int32)).toInt = 0 by decide) c6
    refine lv_bipush (v := (-2)) hx hb dX3_mark_9 (by decide) ?_
    exact W.iret (v := (-2)) hx hb hr (fun t ht hW => ⟨⟨(-2), (), rfl, (by (try dsimp only); exact (Or.inl ⟨by omega, by omega⟩)), by rw [ht]; exact hP, hD⟩, hS.F ht⟩) hS.2.2 dX3_mark_11
set_option maxHeartbeats 1000000 in
set_option maxRecDepth 100000 in
theorem ct_X3_count (l : Launch) (G : va_G) (cI cL : ClassId) (sz : Nat) (qx : Nat) (qm : Nat) (qm1 : Nat) (qm2 : Nat) (qm3 : Nat) (qm4 : Nat) (qm5 : Nat) (zm : Int32) (kt : Nat → Int32) (ks : Nat → Int32) (kf : Nat → Int32) (kl : Nat → Int32) (ku : Nat → Int64) (qh : Nat) (qh1 : Nat) (qh2 : Nat) (zh : Int32) (gt : Nat → Int32) (gu : Nat → Int32) (qt : Nat) (qt1 : Nat) (zt : Int32) (kp : Nat → Int64) (p0 : Int32) (nm : Nat) (hnm : zm.toInt = nm) (hOm : okM nm kt ks kf kl) (hSr : srt nm kt) (hU : okU nm kt ks kf kl ku) (nh : Nat) (hnh : zh.toInt = nh) (hOh : okH nh gt gu) (nt : Nat) (hnt : zt.toInt = nt) (hOt : okT nt kp) : Met l yX3_count wsX3_count ({ frames := 0, cells := 0, slots := 0, locals := 0 }) (va_Pc [.ref qx, .int p0] (pre0 G cI cL [(qx, .inr (3, [.ref qm, .ref qh, .ref qt])), (qm, .inr (1, [.ref qm1, .ref qm2, .ref qm3, .ref qm4, .ref qm5, .int zm])), (qm1, .inl (cI, 40, .inl kt)), (qm2, .inl (cI, 40, .inl ks)), (qm3, .inl (cI, 40, .inl kf)), (qm4, .inl (cI, 40, .inl kl)), (qm5, .inl (cL, 40, .inr (.inl ku))), (qh, .inr (0, [.ref qh1, .ref qh2, .int zh])), (qh1, .inl (cI, 20, .inl gt)), (qh2, .inl (cI, 20, .inl gu)), (qt, .inr (2, [.ref qt1, .int zt])), (qt1, .inl (cL, 40, .inr (.inl kp)))] sz)) (va_Qi (fun (r : Int32) (u : Unit) => (p0.toInt = 0 ∧ r.toInt = nm) ∨ (p0.toInt = 1 ∧ r.toInt = nh) ∨ (p0.toInt = 2 ∧ r.toInt = nt) ∨ ((p0.toInt < 0 ∨ 2 < p0.toInt) ∧ r.toInt = -2)) (fun (u : Unit) t => va_P G vwCl [(qx, .inr (3, [.ref qm, .ref qh, .ref qt])), (qm, .inr (1, [.ref qm1, .ref qm2, .ref qm3, .ref qm4, .ref qm5, .int zm])), (qm1, .inl (cI, 40, .inl kt)), (qm2, .inl (cI, 40, .inl ks)), (qm3, .inl (cI, 40, .inl kf)), (qm4, .inl (cI, 40, .inl kl)), (qm5, .inl (cL, 40, .inr (.inl ku))), (qh, .inr (0, [.ref qh1, .ref qh2, .int zh])), (qh1, .inl (cI, 20, .inl gt)), (qh2, .inl (cI, 20, .inl gu)), (qt, .inr (2, [.ref qt1, .int zt])), (qt1, .inl (cL, 40, .inr (.inl kp)))] t.heap ∧ va_D (va_A [(qx, .inr (3, [.ref qm, .ref qh, .ref qt])), (qm, .inr (1, [.ref qm1, .ref qm2, .ref qm3, .ref qm4, .ref qm5, .int zm])), (qm1, .inl (cI, 40, .inl kt)), (qm2, .inl (cI, 40, .inl ks)), (qm3, .inl (cI, 40, .inl kf)), (qm4, .inl (cI, 40, .inl kl)), (qm5, .inl (cL, 40, .inr (.inl ku))), (qh, .inr (0, [.ref qh1, .ref qh2, .int zh])), (qh1, .inl (cI, 20, .inl gt)), (qh2, .inl (cI, 20, .inl gu)), (qt, .inr (2, [.ref qt1, .int zt])), (qt1, .inl (cL, 40, .inr (.inl kp)))] sz) [(qx, .inr (3, [.ref qm, .ref qh, .ref qt])), (qm, .inr (1, [.ref qm1, .ref qm2, .ref qm3, .ref qm4, .ref qm5, .int zm])), (qm1, .inl (cI, 40, .inl kt)), (qm2, .inl (cI, 40, .inl ks)), (qm3, .inl (cI, 40, .inl kf)), (qm4, .inl (cI, 40, .inl kl)), (qm5, .inl (cL, 40, .inr (.inl ku))), (qh, .inr (0, [.ref qh1, .ref qh2, .int zh])), (qh1, .inl (cI, 20, .inl gt)), (qh2, .inl (cI, 20, .inl gu)), (qt, .inr (2, [.ref qt1, .int zt])), (qt1, .inl (cL, 40, .inr (.inl kp)))]) (va_A [(qx, .inr (3, [.ref qm, .ref qh, .ref qt])), (qm, .inr (1, [.ref qm1, .ref qm2, .ref qm3, .ref qm4, .ref qm5, .int zm])), (qm1, .inl (cI, 40, .inl kt)), (qm2, .inl (cI, 40, .inl ks)), (qm3, .inl (cI, 40, .inl kf)), (qm4, .inl (cI, 40, .inl kl)), (qm5, .inl (cL, 40, .inr (.inl ku))), (qh, .inr (0, [.ref qh1, .ref qh2, .int zh])), (qh1, .inl (cI, 20, .inl gt)), (qh2, .inl (cI, 20, .inl gu)), (qt, .inr (2, [.ref qt1, .int zt])), (qt1, .inl (cL, 40, .inr (.inl kp)))] sz)) 0 0 (va_A [(qx, .inr (3, [.ref qm, .ref qh, .ref qt])), (qm, .inr (1, [.ref qm1, .ref qm2, .ref qm3, .ref qm4, .ref qm5, .int zm])), (qm1, .inl (cI, 40, .inl kt)), (qm2, .inl (cI, 40, .inl ks)), (qm3, .inl (cI, 40, .inl kf)), (qm4, .inl (cI, 40, .inl kl)), (qm5, .inl (cL, 40, .inr (.inl ku))), (qh, .inr (0, [.ref qh1, .ref qh2, .int zh])), (qh1, .inl (cI, 20, .inl gt)), (qh2, .inl (cI, 20, .inl gu)), (qt, .inr (2, [.ref qt1, .int zt])), (qt1, .inl (cL, 40, .inr (.inl kp)))] sz) := by
  refine Met.ofW (cc := cX3_count) (maxL := 2) (ret := (some .int)) (by decide) rfl ?_
  intro p e s m args below meth c s₁ B hml hv
  obtain ⟨rfl, hsz, hP, hK, hD0, hN⟩ := hv
  have hx := B.exec
  have hb := B.bytes
  have hr := B.returns
  have hts := atoms_spec (ws := wsX3_count) B.pre
  have hown : s.vm.findClass RX3 = some m.cls := findClass_of_methodNamed B.named
  have hlocks := B.notSynchronized
  subst hsz
  have hD := hD0.self (sz := s.heap.size)
  generalize hAe : va_A [(qx, .inr (3, [.ref qm, .ref qh, .ref qt])), (qm, .inr (1, [.ref qm1, .ref qm2, .ref qm3, .ref qm4, .ref qm5, .int zm])), (qm1, .inl (cI, 40, .inl kt)), (qm2, .inl (cI, 40, .inl ks)), (qm3, .inl (cI, 40, .inl kf)), (qm4, .inl (cI, 40, .inl kl)), (qm5, .inl (cL, 40, .inr (.inl ku))), (qh, .inr (0, [.ref qh1, .ref qh2, .int zh])), (qh1, .inl (cI, 20, .inl gt)), (qh2, .inl (cI, 20, .inl gu)), (qt, .inr (2, [.ref qt1, .int zt])), (qt1, .inl (cL, 40, .inr (.inl kp)))] s.heap.size = A at hD ⊢
  have hA : ∀ q : Nat, s.heap.size ≤ q → A q := fun q h => by rw [← hAe]; exact Or.inr h
  have hP : va_P G vwCl [(qx, .inr (3, [.ref qm, .ref qh, .ref qt])), (qm, .inr (1, [.ref qm1, .ref qm2, .ref qm3, .ref qm4, .ref qm5, .int zm])), (qm1, .inl (cI, 40, .inl kt)), (qm2, .inl (cI, 40, .inl ks)), (qm3, .inl (cI, 40, .inl kf)), (qm4, .inl (cI, 40, .inl kl)), (qm5, .inl (cL, 40, .inr (.inl ku))), (qh, .inr (0, [.ref qh1, .ref qh2, .int zh])), (qh1, .inl (cI, 20, .inl gt)), (qh2, .inl (cI, 20, .inl gu)), (qt, .inr (2, [.ref qt1, .int zt])), (qt1, .inl (cL, 40, .inr (.inl kp)))] s.heap := hP
  have hl := lv_entry ([.ref qx, .int p0]) (n := 2) (Nat.le_of_ble_eq_true rfl)
  rw [lg_entry_eq]
  generalize (lg_sl ([.ref qx, .int p0]) ++ List.replicate (2 - (lg_sl ([.ref qx, .int p0])).length) Slot.unset).toArray = ls at hl ⊢
  have hl : lv_has ls 2 [(0, .ref qx), (1, .int p0)] := hl
  have hf10 := hts (.fieldLink RX3 10 "TempoMaps" "marks" "LTempoMaps$Marks;") (by decide +kernel)
  have hf19 := hts (.fieldLink RX3 19 "TempoMaps" "holds" "LTempoMaps$Holds;") (by decide +kernel)
  have hf26 := hts (.fieldLink RX3 26 "TempoMaps" "taps" "LTempoMaps$Taps;") (by decide +kernel)
  have hiX0 : ∀ w ∈ wsX00, w ∈ wsX3_count := by decide +kernel
  have hiX1 : ∀ w ∈ wsX10, w ∈ wsX3_count := by decide +kernel
  have hiX2 : ∀ w ∈ wsX20, w ∈ wsX3_count := by decide +kernel
  have hiX3 : ∀ w ∈ wsX30, w ∈ wsX3_count := by decide +kernel
  have zim2 : ((-2 : Int32)).toInt = -2 := by decide
  refine w_h (A := A) hP (fun H locs hP hS => ?_)
  have hn40 := hOm.1
  have hrg := hOm.2.1
  have zz0 : ((0 : Int32)).toInt = 0 := by decide
  refine lv_iload_n hx hb dX3_count_0 rfl (lv_at hl 1 rfl) ?_
  by_cases c1 : p0.toInt < 0 ∨ 2 < p0.toInt
  · refine lv_tableOut (tgt := 52) hx hb dX3_count_1 c1 (by decide) ?_
    refine lv_bipush (v := (-2)) hx hb dX3_count_52 (by decide) ?_
    exact W.iret (v := (-2)) hx hb hr (fun t ht hW => ⟨⟨(-2), (), rfl, (by (try dsimp only); exact (by omega)), by rw [ht]; exact hP, hD⟩, hS.F ht⟩) hS.2.2 dX3_count_54
  · have d1 : p0.toInt = 0 ∨ p0.toInt = 1 ∨ p0.toInt = 2 := by omega
    rcases d1 with d1 | d1 | d1
    · refine lv_tableIn (off := 27) (tgt := 28) hx hb dX3_count_1 (by omega) (by omega) (by rw [d1]; rfl) (by decide) ?_
      refine lv_aload_n hx hb dX3_count_28 rfl (lv_at hl 0 rfl) ?_
      refine va_get (D := G) (ci := 3) (v := .ref qm) (C := RX3) (T := TX3) (N := 3) hx hb hts hiX3 hown hK hP 0 rfl rfl 0 (by decide) hf10 (fun _ h9 => h9) rfl dX3_count_29 ?_
      refine va_getN (D := G) (ci := 1) (v := .int zm) (C := RX1) (T := TX1) (N := 6) hx hb hts hiX1 hown hK hP 1 rfl rfl 5 (by decide) (va_Nw.use rfl (hN.2.1)) (fun _ h9 => h9) rfl dX3_count_32 ?_
      exact W.iret (v := zm) hx hb hr (fun t ht hW => ⟨⟨zm, (), rfl, (by (try dsimp only); exact (by omega)), by rw [ht]; exact hP, hD⟩, hS.F ht⟩) hS.2.2 dX3_count_35
    · refine lv_tableIn (off := 35) (tgt := 36) hx hb dX3_count_1 (by omega) (by omega) (by rw [d1]; rfl) (by decide) ?_
      refine lv_aload_n hx hb dX3_count_36 rfl (lv_at hl 0 rfl) ?_
      refine va_get (D := G) (ci := 3) (v := .ref qh) (C := RX3) (T := TX3) (N := 3) hx hb hts hiX3 hown hK hP 0 rfl rfl 1 (by decide) hf19 (fun _ h9 => h9) rfl dX3_count_37 ?_
      refine va_getN (D := G) (ci := 0) (v := .int zh) (C := RX0) (T := TX0) (N := 3) hx hb hts hiX0 hown hK hP 7 rfl rfl 2 (by decide) (va_Nw.use rfl (hN.2.2.1)) (fun _ h9 => h9) rfl dX3_count_40 ?_
      exact W.iret (v := zh) hx hb hr (fun t ht hW => ⟨⟨zh, (), rfl, (by (try dsimp only); exact (by omega)), by rw [ht]; exact hP, hD⟩, hS.F ht⟩) hS.2.2 dX3_count_43
    · refine lv_tableIn (off := 43) (tgt := 44) hx hb dX3_count_1 (by omega) (by omega) (by rw [d1]; rfl) (by decide) ?_
      refine lv_aload_n hx hb dX3_count_44 rfl (lv_at hl 0 rfl) ?_
      refine va_get (D := G) (ci := 3) (v := .ref qt) (C := RX3) (T := TX3) (N := 3) hx hb hts hiX3 hown hK hP 0 rfl rfl 2 (by decide) hf26 (fun _ h9 => h9) rfl dX3_count_45 ?_
      refine va_getN (D := G) (ci := 2) (v := .int zt) (C := RX2) (T := TX2) (N := 2) hx hb hts hiX2 hown hK hP 10 rfl rfl 1 (by decide) (va_Nw.use rfl (hN.2.2.2)) (fun _ h9 => h9) rfl dX3_count_48 ?_
      exact W.iret (v := zt) hx hb hr (fun t ht hW => ⟨⟨zt, (), rfl, (by (try dsimp only); exact (by omega)), by rw [ht]; exact hP, hD⟩, hS.F ht⟩) hS.2.2 dX3_count_51
set_option maxHeartbeats 1000000 in
set_option maxRecDepth 100000 in
theorem ct_X3_lasts (l : Launch) (G : va_G) (cI cL : ClassId) (sz : Nat) (qx : Nat) (qm : Nat) (qm1 : Nat) (qm2 : Nat) (qm3 : Nat) (qm4 : Nat) (qm5 : Nat) (zm : Int32) (kt : Nat → Int32) (ks : Nat → Int32) (kf : Nat → Int32) (kl : Nat → Int32) (ku : Nat → Int64) (qh : Nat) (qh1 : Nat) (qh2 : Nat) (zh : Int32) (gt : Nat → Int32) (gu : Nat → Int32) (qt : Nat) (qt1 : Nat) (zt : Int32) (kp : Nat → Int64) (p0 : Int32) (nm : Nat) (hnm : zm.toInt = nm) (hOm : okM nm kt ks kf kl) (hSr : srt nm kt) (hU : okU nm kt ks kf kl ku) (nh : Nat) (hnh : zh.toInt = nh) (hOh : okH nh gt gu) (nt : Nat) (hnt : zt.toInt = nt) (hOt : okT nt kp) : Met l yX3_lasts wsX3_lasts ({ frames := 2, cells := 0, slots := 0, locals := 47 }) (va_Pc [.ref qx, .int p0] (pre0 G cI cL [(qx, .inr (3, [.ref qm, .ref qh, .ref qt])), (qm, .inr (1, [.ref qm1, .ref qm2, .ref qm3, .ref qm4, .ref qm5, .int zm])), (qm1, .inl (cI, 40, .inl kt)), (qm2, .inl (cI, 40, .inl ks)), (qm3, .inl (cI, 40, .inl kf)), (qm4, .inl (cI, 40, .inl kl)), (qm5, .inl (cL, 40, .inr (.inl ku))), (qh, .inr (0, [.ref qh1, .ref qh2, .int zh])), (qh1, .inl (cI, 20, .inl gt)), (qh2, .inl (cI, 20, .inl gu)), (qt, .inr (2, [.ref qt1, .int zt])), (qt1, .inl (cL, 40, .inr (.inl kp)))] sz)) (va_Qi (fun (r : Int32) (u : Unit) => ((p0.toInt < 0 ∨ 999999 < p0.toInt) ∧ r.toInt = -2) ∨ ((0 ≤ p0.toInt ∧ p0.toInt ≤ 999999) ∧ r.toInt = paceF kt ks kf kl nm p0.toInt)) (fun (u : Unit) t => va_P G vwCl [(qx, .inr (3, [.ref qm, .ref qh, .ref qt])), (qm, .inr (1, [.ref qm1, .ref qm2, .ref qm3, .ref qm4, .ref qm5, .int zm])), (qm1, .inl (cI, 40, .inl kt)), (qm2, .inl (cI, 40, .inl ks)), (qm3, .inl (cI, 40, .inl kf)), (qm4, .inl (cI, 40, .inl kl)), (qm5, .inl (cL, 40, .inr (.inl ku))), (qh, .inr (0, [.ref qh1, .ref qh2, .int zh])), (qh1, .inl (cI, 20, .inl gt)), (qh2, .inl (cI, 20, .inl gu)), (qt, .inr (2, [.ref qt1, .int zt])), (qt1, .inl (cL, 40, .inr (.inl kp)))] t.heap ∧ va_D (va_A [(qx, .inr (3, [.ref qm, .ref qh, .ref qt])), (qm, .inr (1, [.ref qm1, .ref qm2, .ref qm3, .ref qm4, .ref qm5, .int zm])), (qm1, .inl (cI, 40, .inl kt)), (qm2, .inl (cI, 40, .inl ks)), (qm3, .inl (cI, 40, .inl kf)), (qm4, .inl (cI, 40, .inl kl)), (qm5, .inl (cL, 40, .inr (.inl ku))), (qh, .inr (0, [.ref qh1, .ref qh2, .int zh])), (qh1, .inl (cI, 20, .inl gt)), (qh2, .inl (cI, 20, .inl gu)), (qt, .inr (2, [.ref qt1, .int zt])), (qt1, .inl (cL, 40, .inr (.inl kp)))] sz) [(qx, .inr (3, [.ref qm, .ref qh, .ref qt])), (qm, .inr (1, [.ref qm1, .ref qm2, .ref qm3, .ref qm4, .ref qm5, .int zm])), (qm1, .inl (cI, 40, .inl kt)), (qm2, .inl (cI, 40, .inl ks)), (qm3, .inl (cI, 40, .inl kf)), (qm4, .inl (cI, 40, .inl kl)), (qm5, .inl (cL, 40, .inr (.inl ku))), (qh, .inr (0, [.ref qh1, .ref qh2, .int zh])), (qh1, .inl (cI, 20, .inl gt)), (qh2, .inl (cI, 20, .inl gu)), (qt, .inr (2, [.ref qt1, .int zt])), (qt1, .inl (cL, 40, .inr (.inl kp)))]) (va_A [(qx, .inr (3, [.ref qm, .ref qh, .ref qt])), (qm, .inr (1, [.ref qm1, .ref qm2, .ref qm3, .ref qm4, .ref qm5, .int zm])), (qm1, .inl (cI, 40, .inl kt)), (qm2, .inl (cI, 40, .inl ks)), (qm3, .inl (cI, 40, .inl kf)), (qm4, .inl (cI, 40, .inl kl)), (qm5, .inl (cL, 40, .inr (.inl ku))), (qh, .inr (0, [.ref qh1, .ref qh2, .int zh])), (qh1, .inl (cI, 20, .inl gt)), (qh2, .inl (cI, 20, .inl gu)), (qt, .inr (2, [.ref qt1, .int zt])), (qt1, .inl (cL, 40, .inr (.inl kp)))] sz)) 0 0 (va_A [(qx, .inr (3, [.ref qm, .ref qh, .ref qt])), (qm, .inr (1, [.ref qm1, .ref qm2, .ref qm3, .ref qm4, .ref qm5, .int zm])), (qm1, .inl (cI, 40, .inl kt)), (qm2, .inl (cI, 40, .inl ks)), (qm3, .inl (cI, 40, .inl kf)), (qm4, .inl (cI, 40, .inl kl)), (qm5, .inl (cL, 40, .inr (.inl ku))), (qh, .inr (0, [.ref qh1, .ref qh2, .int zh])), (qh1, .inl (cI, 20, .inl gt)), (qh2, .inl (cI, 20, .inl gu)), (qt, .inr (2, [.ref qt1, .int zt])), (qt1, .inl (cL, 40, .inr (.inl kp)))] sz) := by
  refine Met.ofW (cc := cX3_lasts) (maxL := 2) (ret := (some .int)) (by decide) rfl ?_
  intro p e s m args below meth c s₁ B hml hv
  obtain ⟨rfl, hsz, hP, hK, hD0, hN⟩ := hv
  have hx := B.exec
  have hb := B.bytes
  have hr := B.returns
  have hts := atoms_spec (ws := wsX3_lasts) B.pre
  have hown : s.vm.findClass RX3 = some m.cls := findClass_of_methodNamed B.named
  have hlocks := B.notSynchronized
  subst hsz
  have hD := hD0.self (sz := s.heap.size)
  generalize hAe : va_A [(qx, .inr (3, [.ref qm, .ref qh, .ref qt])), (qm, .inr (1, [.ref qm1, .ref qm2, .ref qm3, .ref qm4, .ref qm5, .int zm])), (qm1, .inl (cI, 40, .inl kt)), (qm2, .inl (cI, 40, .inl ks)), (qm3, .inl (cI, 40, .inl kf)), (qm4, .inl (cI, 40, .inl kl)), (qm5, .inl (cL, 40, .inr (.inl ku))), (qh, .inr (0, [.ref qh1, .ref qh2, .int zh])), (qh1, .inl (cI, 20, .inl gt)), (qh2, .inl (cI, 20, .inl gu)), (qt, .inr (2, [.ref qt1, .int zt])), (qt1, .inl (cL, 40, .inr (.inl kp)))] s.heap.size = A at hD ⊢
  have hA : ∀ q : Nat, s.heap.size ≤ q → A q := fun q h => by rw [← hAe]; exact Or.inr h
  have hP : va_P G vwCl [(qx, .inr (3, [.ref qm, .ref qh, .ref qt])), (qm, .inr (1, [.ref qm1, .ref qm2, .ref qm3, .ref qm4, .ref qm5, .int zm])), (qm1, .inl (cI, 40, .inl kt)), (qm2, .inl (cI, 40, .inl ks)), (qm3, .inl (cI, 40, .inl kf)), (qm4, .inl (cI, 40, .inl kl)), (qm5, .inl (cL, 40, .inr (.inl ku))), (qh, .inr (0, [.ref qh1, .ref qh2, .int zh])), (qh1, .inl (cI, 20, .inl gt)), (qh2, .inl (cI, 20, .inl gu)), (qt, .inr (2, [.ref qt1, .int zt])), (qt1, .inl (cL, 40, .inr (.inl kp)))] s.heap := hP
  have hl := lv_entry ([.ref qx, .int p0]) (n := 2) (Nat.le_of_ble_eq_true rfl)
  rw [lg_entry_eq]
  generalize (lg_sl ([.ref qx, .int p0]) ++ List.replicate (2 - (lg_sl ([.ref qx, .int p0])).length) Slot.unset).toArray = ls at hl ⊢
  have hl : lv_has ls 2 [(0, .ref qx), (1, .int p0)] := hl
  have hf10 := hts (.fieldLink RX3 10 "TempoMaps" "marks" "LTempoMaps$Marks;") (by decide +kernel)
  have hiX3 : ∀ w ∈ wsX30, w ∈ wsX3_lasts := by decide +kernel
  have zim2 : ((-2 : Int32)).toInt = -2 := by decide
  have zi0 : ((0 : Int32)).toInt = 0 := by decide
  have zi999999 : ((999999 : Int32)).toInt = 999999 := by decide
  refine w_h (A := A) hP (fun H locs hP hS => ?_)
  have hn40 := hOm.1
  have hrg := hOm.2.1
  have zz0 : ((0 : Int32)).toInt = 0 := by decide
  refine lv_iload_n hx hb dX3_lasts_0 rfl (lv_at hl 1 rfl) ?_
  refine lv_iconst (v := 0) hx hb dX3_lasts_1 (by decide) ?_
  refine lv_ldc (v := 999999) hx hb hown (hts (.constant RX3 30 999999) (by decide +kernel)) dX3_lasts_2 ?_
  have hPc := hP.sub (ws' := ([] : va_W)) [] rfl
  have hDc := hD.sub (ws' := ([] : va_W)) [] (by decide) rfl
  have hcc := (ct_X3_isWithin l G cI cL H.size p0 0 999999)
  refine ro_calli (va_runS (As := [.int p0, .int 0, .int 999999]) (rest := []) ⟨hx, hb, hml, hown, hts⟩ hcc (va_cwS 3 hts gX3_lasts_X3_isWithin rfl rfl rfl (by decide +kernel) ⟨Nat.le_of_ble_eq_true rfl, Nat.le_of_ble_eq_true rfl⟩) ⟨pre_blind, pre_pass hK hN hPc hDc⟩ rfl rfl hl.1 rfl (lv_room (Nat.le_of_ble_eq_true rfl)) dX3_lasts_4 ⟨Nat.le_of_ble_eq_true rfl, Nat.le_of_ble_eq_true rfl⟩) hP hD hS hA [] rfl (fun r4 H locs hw4 hP hS => ?_)
  try dsimp only at hw4
  refine lv_if_ne (tgt := 13) hx hb dX3_lasts_7 (by decide) (fun c7 => ?_) (fun c7 => ?_)
  · have k7 : (r4.toInt : Int) ≠ 0 := i_ne rfl (show ((0 : Int32)).toInt = 0 by decide) c7
    refine lv_aload_n hx hb dX3_lasts_13 rfl (lv_at hl 0 rfl) ?_
    refine va_get (D := G) (ci := 3) (v := .ref qm) (C := RX3) (T := TX3) (N := 3) hx hb hts hiX3 hown hK hP 0 rfl rfl 0 (by decide) hf10 (fun _ h9 => h9) rfl dX3_lasts_14 ?_
    refine lv_iload_n hx hb dX3_lasts_17 rfl (lv_at hl 1 rfl) ?_
    have hPc := hP.sub (ws' := [(qm, .inr (1, [.ref qm1, .ref qm2, .ref qm3, .ref qm4, .ref qm5, .int zm])), (qm1, .inl (cI, 40, .inl kt)), (qm2, .inl (cI, 40, .inl ks)), (qm3, .inl (cI, 40, .inl kf)), (qm4, .inl (cI, 40, .inl kl)), (qm5, .inl (cL, 40, .inr (.inl ku)))]) [1, 2, 3, 4, 5, 6] rfl
    have hDc := hD.sub (ws' := [(qm, .inr (1, [.ref qm1, .ref qm2, .ref qm3, .ref qm4, .ref qm5, .int zm])), (qm1, .inl (cI, 40, .inl kt)), (qm2, .inl (cI, 40, .inl ks)), (qm3, .inl (cI, 40, .inl kf)), (qm4, .inl (cI, 40, .inl kl)), (qm5, .inl (cL, 40, .inr (.inl ku)))]) [1, 2, 3, 4, 5, 6] (by decide) rfl
    have hcc := (ct_X1_unitsOfTick l G cI cL H.size qm qm1 qm2 qm3 qm4 qm5 zm kt ks kf kl ku p0 nm hnm hOm hSr (by omega))
    refine ro_calli (va_runV (As := [.int p0]) (rest := []) ⟨hx, hb, hml, hown, hts⟩ hcc (cwV 1 hts gX3_lasts_X1_unitsOfTick rfl rfl rfl (by decide +kernel) ⟨Nat.le_of_ble_eq_true rfl, Nat.le_of_ble_eq_true rfl⟩) ⟨pre_blind, va_recv hK hPc (ci := 1) (q0 := 0) rfl rfl, pre_pass hK hN hPc hDc⟩ rfl rfl hl.1 rfl (lv_room (Nat.le_of_ble_eq_true rfl)) dX3_lasts_18 ⟨Nat.le_of_ble_eq_true rfl, Nat.le_of_ble_eq_true rfl⟩) hP hD hS hA [1, 2, 3, 4, 5, 6] rfl (fun r18 H locs hw18 hP hS => ?_)
    try dsimp only at hw18
    exact W.iret (v := r18) hx hb hr (fun t ht hW => ⟨⟨r18, (), rfl, (by (try dsimp only); exact (Or.inr ⟨by omega, hw18⟩)), by rw [ht]; exact hP, hD⟩, hS.F ht⟩) hS.2.2 dX3_lasts_21
  · have k7 : (r4.toInt : Int) = 0 := i_eq rfl (show ((0 : Int32)).toInt = 0 by decide) c7
    refine lv_bipush (v := (-2)) hx hb dX3_lasts_10 (by decide) ?_
    exact W.iret (v := (-2)) hx hb hr (fun t ht hW => ⟨⟨(-2), (), rfl, (by (try dsimp only); exact (Or.inl ⟨by omega, by omega⟩)), by rw [ht]; exact hP, hD⟩, hS.F ht⟩) hS.2.2 dX3_lasts_12

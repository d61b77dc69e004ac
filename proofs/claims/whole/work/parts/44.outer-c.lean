set_option maxHeartbeats 1000000 in
set_option maxRecDepth 100000 in
theorem ct_X3_tap (l : Launch) (G : va_G) (cI cL : ClassId) (sz : Nat) (qx : Nat) (qm : Nat) (qm1 : Nat) (qm2 : Nat) (qm3 : Nat) (qm4 : Nat) (qm5 : Nat) (zm : Int32) (kt : Nat → Int32) (ks : Nat → Int32) (kf : Nat → Int32) (kl : Nat → Int32) (ku : Nat → Int64) (qh : Nat) (qh1 : Nat) (qh2 : Nat) (zh : Int32) (gt : Nat → Int32) (gu : Nat → Int32) (qt : Nat) (qt1 : Nat) (zt : Int32) (kp : Nat → Int64) (p0 : Int64) (nm : Nat) (hnm : zm.toInt = nm) (hOm : okM nm kt ks kf kl) (hSr : srt nm kt) (hU : okU nm kt ks kf kl ku) (nh : Nat) (hnh : zh.toInt = nh) (hOh : okH nh gt gu) (nt : Nat) (hnt : zt.toInt = nt) (hOt : okT nt kp) : Met l yX3_tap wsX3_tap ({ frames := 1, cells := 0, slots := 0, locals := 22 }) (va_Pc [.ref qx, .long p0] (pre0 G cI cL [(qx, .inr (3, [.ref qm, .ref qh, .ref qt])), (qm, .inr (1, [.ref qm1, .ref qm2, .ref qm3, .ref qm4, .ref qm5, .int zm])), (qm1, .inl (cI, 40, .inl kt)), (qm2, .inl (cI, 40, .inl ks)), (qm3, .inl (cI, 40, .inl kf)), (qm4, .inl (cI, 40, .inl kl)), (qm5, .inl (cL, 40, .inr (.inl ku))), (qh, .inr (0, [.ref qh1, .ref qh2, .int zh])), (qh1, .inl (cI, 20, .inl gt)), (qh2, .inl (cI, 20, .inl gu)), (qt, .inr (2, [.ref qt1, .int zt])), (qt1, .inl (cL, 40, .inr (.inl kp)))] sz)) (va_Qi (fun (r : Int32) (u : Int32 × (Nat → Int64)) => ∃ n' : Nat, u.1.toInt = n' ∧ tTap nt kp p0 r.toInt n' u.2) (fun (u : Int32 × (Nat → Int64)) t => va_P G vwCl [(qx, .inr (3, [.ref qm, .ref qh, .ref qt])), (qm, .inr (1, [.ref qm1, .ref qm2, .ref qm3, .ref qm4, .ref qm5, .int zm])), (qm1, .inl (cI, 40, .inl kt)), (qm2, .inl (cI, 40, .inl ks)), (qm3, .inl (cI, 40, .inl kf)), (qm4, .inl (cI, 40, .inl kl)), (qm5, .inl (cL, 40, .inr (.inl ku))), (qh, .inr (0, [.ref qh1, .ref qh2, .int zh])), (qh1, .inl (cI, 20, .inl gt)), (qh2, .inl (cI, 20, .inl gu)), (qt, .inr (2, [.ref qt1, .int u.1])), (qt1, .inl (cL, 40, .inr (.inl (u.2))))] t.heap ∧ va_D (va_A [(qx, .inr (3, [.ref qm, .ref qh, .ref qt])), (qm, .inr (1, [.ref qm1, .ref qm2, .ref qm3, .ref qm4, .ref qm5, .int zm])), (qm1, .inl (cI, 40, .inl kt)), (qm2, .inl (cI, 40, .inl ks)), (qm3, .inl (cI, 40, .inl kf)), (qm4, .inl (cI, 40, .inl kl)), (qm5, .inl (cL, 40, .inr (.inl ku))), (qh, .inr (0, [.ref qh1, .ref qh2, .int zh])), (qh1, .inl (cI, 20, .inl gt)), (qh2, .inl (cI, 20, .inl gu)), (qt, .inr (2, [.ref qt1, .int zt])), (qt1, .inl (cL, 40, .inr (.inl kp)))] sz) [(qx, .inr (3, [.ref qm, .ref qh, .ref qt])), (qm, .inr (1, [.ref qm1, .ref qm2, .ref qm3, .ref qm4, .ref qm5, .int zm])), (qm1, .inl (cI, 40, .inl kt)), (qm2, .inl (cI, 40, .inl ks)), (qm3, .inl (cI, 40, .inl kf)), (qm4, .inl (cI, 40, .inl kl)), (qm5, .inl (cL, 40, .inr (.inl ku))), (qh, .inr (0, [.ref qh1, .ref qh2, .int zh])), (qh1, .inl (cI, 20, .inl gt)), (qh2, .inl (cI, 20, .inl gu)), (qt, .inr (2, [.ref qt1, .int u.1])), (qt1, .inl (cL, 40, .inr (.inl (u.2))))]) (va_A [(qx, .inr (3, [.ref qm, .ref qh, .ref qt])), (qm, .inr (1, [.ref qm1, .ref qm2, .ref qm3, .ref qm4, .ref qm5, .int zm])), (qm1, .inl (cI, 40, .inl kt)), (qm2, .inl (cI, 40, .inl ks)), (qm3, .inl (cI, 40, .inl kf)), (qm4, .inl (cI, 40, .inl kl)), (qm5, .inl (cL, 40, .inr (.inl ku))), (qh, .inr (0, [.ref qh1, .ref qh2, .int zh])), (qh1, .inl (cI, 20, .inl gt)), (qh2, .inl (cI, 20, .inl gu)), (qt, .inr (2, [.ref qt1, .int zt])), (qt1, .inl (cL, 40, .inr (.inl kp)))] sz)) 0 0 (va_A [(qx, .inr (3, [.ref qm, .ref qh, .ref qt])), (qm, .inr (1, [.ref qm1, .ref qm2, .ref qm3, .ref qm4, .ref qm5, .int zm])), (qm1, .inl (cI, 40, .inl kt)), (qm2, .inl (cI, 40, .inl ks)), (qm3, .inl (cI, 40, .inl kf)), (qm4, .inl (cI, 40, .inl kl)), (qm5, .inl (cL, 40, .inr (.inl ku))), (qh, .inr (0, [.ref qh1, .ref qh2, .int zh])), (qh1, .inl (cI, 20, .inl gt)), (qh2, .inl (cI, 20, .inl gu)), (qt, .inr (2, [.ref qt1, .int zt])), (qt1, .inl (cL, 40, .inr (.inl kp)))] sz) := by
  refine Met.ofW (cc := cX3_tap) (maxL := 3) (ret := (some .int)) (by decide) rfl ?_
  intro p e s m args below meth c s₁ B hml hv
  obtain ⟨rfl, hsz, hP, hK, hD0, hN⟩ := hv
  have hx := B.exec
  have hb := B.bytes
  have hr := B.returns
  have hts := atoms_spec (ws := wsX3_tap) B.pre
  have hown : s.vm.findClass RX3 = some m.cls := findClass_of_methodNamed B.named
  have hlocks := B.notSynchronized
  subst hsz
  have hD := hD0.self (sz := s.heap.size)
  generalize hAe : va_A [(qx, .inr (3, [.ref qm, .ref qh, .ref qt])), (qm, .inr (1, [.ref qm1, .ref qm2, .ref qm3, .ref qm4, .ref qm5, .int zm])), (qm1, .inl (cI, 40, .inl kt)), (qm2, .inl (cI, 40, .inl ks)), (qm3, .inl (cI, 40, .inl kf)), (qm4, .inl (cI, 40, .inl kl)), (qm5, .inl (cL, 40, .inr (.inl ku))), (qh, .inr (0, [.ref qh1, .ref qh2, .int zh])), (qh1, .inl (cI, 20, .inl gt)), (qh2, .inl (cI, 20, .inl gu)), (qt, .inr (2, [.ref qt1, .int zt])), (qt1, .inl (cL, 40, .inr (.inl kp)))] s.heap.size = A at hD ⊢
  have hA : ∀ q : Nat, s.heap.size ≤ q → A q := fun q h => by rw [← hAe]; exact Or.inr h
  have hP : va_P G vwCl [(qx, .inr (3, [.ref qm, .ref qh, .ref qt])), (qm, .inr (1, [.ref qm1, .ref qm2, .ref qm3, .ref qm4, .ref qm5, .int zm])), (qm1, .inl (cI, 40, .inl kt)), (qm2, .inl (cI, 40, .inl ks)), (qm3, .inl (cI, 40, .inl kf)), (qm4, .inl (cI, 40, .inl kl)), (qm5, .inl (cL, 40, .inr (.inl ku))), (qh, .inr (0, [.ref qh1, .ref qh2, .int zh])), (qh1, .inl (cI, 20, .inl gt)), (qh2, .inl (cI, 20, .inl gu)), (qt, .inr (2, [.ref qt1, .int zt])), (qt1, .inl (cL, 40, .inr (.inl kp)))] s.heap := hP
  have hl := lv_entry ([.ref qx, .long p0]) (n := 3) (Nat.le_of_ble_eq_true rfl)
  rw [lg_entry_eq]
  generalize (lg_sl ([.ref qx, .long p0]) ++ List.replicate (3 - (lg_sl ([.ref qx, .long p0])).length) Slot.unset).toArray = ls at hl ⊢
  have hl : lv_has ls 3 [(0, .ref qx), (1, .long p0)] := hl
  have hf26 := hts (.fieldLink RX3 26 "TempoMaps" "taps" "LTempoMaps$Taps;") (by decide +kernel)
  have hiX3 : ∀ w ∈ wsX30, w ∈ wsX3_tap := by decide +kernel
  have zim2 : ((-2 : Int32)).toInt = -2 := by decide
  have zl0 : ((0 : Int64)).toInt = 0 := by decide
  have zl1000000000000 : ((1000000000000 : Int64)).toInt = 1000000000000 := by decide
  refine w_h (A := A) hP (fun H locs hP hS => ?_)
  have hn40 := hOt.1
  refine lv_lload_n hx hb dX3_tap_0 rfl (lv_at hl 1 rfl) ?_
  refine lv_lconst (v := 0) hx hb dX3_tap_1 (by decide) ?_
  refine W.lcmp hx hb dX3_tap_2 ?_
  refine lv_if_lt (tgt := 14) hx hb dX3_tap_3 (by decide) (fun c3 => ?_) (fun c3 => ?_)
  · have k3 : (p0.toInt : Int) < 0 := l_lt rfl (show ((0 : Int64)).toInt = 0 by decide) ((lg_cmp_lt _ _).mp c3)
    refine lv_bipush (v := (-2)) hx hb dX3_tap_14 (by decide) ?_
    exact W.iret (v := (-2)) hx hb hr (fun t ht hW => ⟨⟨(-2), (zt, kp), rfl, (by (try dsimp only); exact ⟨nt, hnt, Or.inl ⟨by omega, by omega, rfl, rfl⟩⟩), by rw [ht]; exact hP, hD⟩, hS.F ht⟩) hS.2.2 dX3_tap_16
  · have k3 : (0 : Int) ≤ p0.toInt := l_nlt rfl (show ((0 : Int64)).toInt = 0 by decide) (fun h9 => c3 ((lg_cmp_lt _ _).mpr h9))
    refine lv_lload_n hx hb dX3_tap_6 rfl (lv_at hl 1 rfl) ?_
    refine lv_ldc2 (v := 1000000000000) hx hb hown (hts (.constantLong RX3 92 1000000000000) (by decide +kernel)) dX3_tap_7 ?_
    refine W.lcmp hx hb dX3_tap_10 ?_
    refine lv_if_le (tgt := 17) hx hb dX3_tap_11 (by decide) (fun c11 => ?_) (fun c11 => ?_)
    · have k11 : (p0.toInt : Int) ≤ 1000000000000 := l_le rfl (show ((1000000000000 : Int64)).toInt = 1000000000000 by decide) ((lg_cmp_le _ _).mp c11)
      refine lv_aload_n hx hb dX3_tap_17 rfl (lv_at hl 0 rfl) ?_
      refine va_get (D := G) (ci := 3) (v := .ref qt) (C := RX3) (T := TX3) (N := 3) hx hb hts hiX3 hown hK hP 0 rfl rfl 2 (by decide) hf26 (fun _ h9 => h9) rfl dX3_tap_18 ?_
      refine lv_lload_n hx hb dX3_tap_21 rfl (lv_at hl 1 rfl) ?_
      have hPc := hP.sub (ws' := [(qt, .inr (2, [.ref qt1, .int zt])), (qt1, .inl (cL, 40, .inr (.inl kp)))]) [10, 11] rfl
      have hDc := hD.sub (ws' := [(qt, .inr (2, [.ref qt1, .int zt])), (qt1, .inl (cL, 40, .inr (.inl kp)))]) [10, 11] (by decide) rfl
      have hcc := (ct_X2_add l G cI cL H.size qt qt1 zt kp p0 nt hnt hOt)
      refine rw_calli (wr := [(qx, .inr (3, [.ref qm, .ref qh, .ref qt])), (qm, .inr (1, [.ref qm1, .ref qm2, .ref qm3, .ref qm4, .ref qm5, .int zm])), (qm1, .inl (cI, 40, .inl kt)), (qm2, .inl (cI, 40, .inl ks)), (qm3, .inl (cI, 40, .inl kf)), (qm4, .inl (cI, 40, .inl kl)), (qm5, .inl (cL, 40, .inr (.inl ku))), (qh, .inr (0, [.ref qh1, .ref qh2, .int zh])), (qh1, .inl (cI, 20, .inl gt)), (qh2, .inl (cI, 20, .inl gu))]) (va_runV (As := [.long p0]) (rest := []) ⟨hx, hb, hml, hown, hts⟩ hcc (cwV 1 hts gX3_tap_X2_add rfl rfl rfl (by decide +kernel) ⟨Nat.le_of_ble_eq_true rfl, Nat.le_of_ble_eq_true rfl⟩) ⟨pre_blind, va_recv hK hPc (ci := 2) (q0 := 0) rfl rfl, pre_pass hK hN hPc hDc⟩ rfl rfl hl.1 rfl (lv_room (Nat.le_of_ble_eq_true rfl)) dX3_tap_22 ⟨Nat.le_of_ble_eq_true rfl, Nat.le_of_ble_eq_true rfl⟩) hP hD hS hA [10, 11] [0, 1, 2, 3, 4, 5, 6, 7, 8, 9] rfl rfl (by decide) (by decide) (fun r22 u22 H locs hw22 hP hD hS => ?_)
      obtain ⟨zt22, kp22⟩ := u22
      have hP : va_P G vwCl [(qx, .inr (3, [.ref qm, .ref qh, .ref qt])), (qm, .inr (1, [.ref qm1, .ref qm2, .ref qm3, .ref qm4, .ref qm5, .int zm])), (qm1, .inl (cI, 40, .inl kt)), (qm2, .inl (cI, 40, .inl ks)), (qm3, .inl (cI, 40, .inl kf)), (qm4, .inl (cI, 40, .inl kl)), (qm5, .inl (cL, 40, .inr (.inl ku))), (qh, .inr (0, [.ref qh1, .ref qh2, .int zh])), (qh1, .inl (cI, 20, .inl gt)), (qh2, .inl (cI, 20, .inl gu)), (qt, .inr (2, [.ref qt1, .int zt22])), (qt1, .inl (cL, 40, .inr (.inl kp22)))] H := hP.sub [0, 1, 2, 3, 4, 5, 6, 7, 8, 9, 10, 11] rfl
      have hD : va_D A [(qx, .inr (3, [.ref qm, .ref qh, .ref qt])), (qm, .inr (1, [.ref qm1, .ref qm2, .ref qm3, .ref qm4, .ref qm5, .int zm])), (qm1, .inl (cI, 40, .inl kt)), (qm2, .inl (cI, 40, .inl ks)), (qm3, .inl (cI, 40, .inl kf)), (qm4, .inl (cI, 40, .inl kl)), (qm5, .inl (cL, 40, .inr (.inl ku))), (qh, .inr (0, [.ref qh1, .ref qh2, .int zh])), (qh1, .inl (cI, 20, .inl gt)), (qh2, .inl (cI, 20, .inl gu)), (qt, .inr (2, [.ref qt1, .int zt22])), (qt1, .inl (cL, 40, .inr (.inl kp22)))] := hD.sub [0, 1, 2, 3, 4, 5, 6, 7, 8, 9, 10, 11] (by decide) rfl
      try dsimp only at hw22
      obtain ⟨n22, a22, b22⟩ := hw22
      exact W.iret (v := r22) hx hb hr (fun t ht hW => ⟨⟨r22, (zt22, kp22), rfl, (by (try dsimp only); exact ⟨n22, a22, Or.inr ⟨by omega, b22⟩⟩), by rw [ht]; exact hP, hD⟩, hS.F ht⟩) hS.2.2 dX3_tap_25
    · have k11 : (1000000000000 : Int) < p0.toInt := l_nle rfl (show ((1000000000000 : Int64)).toInt = 1000000000000 by decide) (fun h9 => c11 ((lg_cmp_le _ _).mpr h9))
      refine lv_bipush (v := (-2)) hx hb dX3_tap_14 (by decide) ?_
      exact W.iret (v := (-2)) hx hb hr (fun t ht hW => ⟨⟨(-2), (zt, kp), rfl, (by (try dsimp only); exact ⟨nt, hnt, Or.inl ⟨by omega, by omega, rfl, rfl⟩⟩), by rw [ht]; exact hP, hD⟩, hS.F ht⟩) hS.2.2 dX3_tap_16
set_option maxHeartbeats 1000000 in
set_option maxRecDepth 100000 in
theorem ct_X3_noTaps (l : Launch) (G : va_G) (cI cL : ClassId) (sz : Nat) (qx : Nat) (qm : Nat) (qm1 : Nat) (qm2 : Nat) (qm3 : Nat) (qm4 : Nat) (qm5 : Nat) (zm : Int32) (kt : Nat → Int32) (ks : Nat → Int32) (kf : Nat → Int32) (kl : Nat → Int32) (ku : Nat → Int64) (qh : Nat) (qh1 : Nat) (qh2 : Nat) (zh : Int32) (gt : Nat → Int32) (gu : Nat → Int32) (qt : Nat) (qt1 : Nat) (zt : Int32) (kp : Nat → Int64) (nm : Nat) (hnm : zm.toInt = nm) (hOm : okM nm kt ks kf kl) (hSr : srt nm kt) (hU : okU nm kt ks kf kl ku) (nh : Nat) (hnh : zh.toInt = nh) (hOh : okH nh gt gu) (nt : Nat) (hnt : zt.toInt = nt) (hOt : okT nt kp) : Met l yX3_noTaps wsX3_noTaps ({ frames := 1, cells := 0, slots := 0, locals := 21 }) (va_Pc [.ref qx] (pre0 G cI cL [(qx, .inr (3, [.ref qm, .ref qh, .ref qt])), (qm, .inr (1, [.ref qm1, .ref qm2, .ref qm3, .ref qm4, .ref qm5, .int zm])), (qm1, .inl (cI, 40, .inl kt)), (qm2, .inl (cI, 40, .inl ks)), (qm3, .inl (cI, 40, .inl kf)), (qm4, .inl (cI, 40, .inl kl)), (qm5, .inl (cL, 40, .inr (.inl ku))), (qh, .inr (0, [.ref qh1, .ref qh2, .int zh])), (qh1, .inl (cI, 20, .inl gt)), (qh2, .inl (cI, 20, .inl gu)), (qt, .inr (2, [.ref qt1, .int zt])), (qt1, .inl (cL, 40, .inr (.inl kp)))] sz)) (va_Qi (fun (r : Int32) (u : Int32) => r.toInt = nt ∧ u.toInt = 0) (fun (u : Int32) t => va_P G vwCl [(qx, .inr (3, [.ref qm, .ref qh, .ref qt])), (qm, .inr (1, [.ref qm1, .ref qm2, .ref qm3, .ref qm4, .ref qm5, .int zm])), (qm1, .inl (cI, 40, .inl kt)), (qm2, .inl (cI, 40, .inl ks)), (qm3, .inl (cI, 40, .inl kf)), (qm4, .inl (cI, 40, .inl kl)), (qm5, .inl (cL, 40, .inr (.inl ku))), (qh, .inr (0, [.ref qh1, .ref qh2, .int zh])), (qh1, .inl (cI, 20, .inl gt)), (qh2, .inl (cI, 20, .inl gu)), (qt, .inr (2, [.ref qt1, .int u])), (qt1, .inl (cL, 40, .inr (.inl kp)))] t.heap ∧ va_D (va_A [(qx, .inr (3, [.ref qm, .ref qh, .ref qt])), (qm, .inr (1, [.ref qm1, .ref qm2, .ref qm3, .ref qm4, .ref qm5, .int zm])), (qm1, .inl (cI, 40, .inl kt)), (qm2, .inl (cI, 40, .inl ks)), (qm3, .inl (cI, 40, .inl kf)), (qm4, .inl (cI, 40, .inl kl)), (qm5, .inl (cL, 40, .inr (.inl ku))), (qh, .inr (0, [.ref qh1, .ref qh2, .int zh])), (qh1, .inl (cI, 20, .inl gt)), (qh2, .inl (cI, 20, .inl gu)), (qt, .inr (2, [.ref qt1, .int zt])), (qt1, .inl (cL, 40, .inr (.inl kp)))] sz) [(qx, .inr (3, [.ref qm, .ref qh, .ref qt])), (qm, .inr (1, [.ref qm1, .ref qm2, .ref qm3, .ref qm4, .ref qm5, .int zm])), (qm1, .inl (cI, 40, .inl kt)), (qm2, .inl (cI, 40, .inl ks)), (qm3, .inl (cI, 40, .inl kf)), (qm4, .inl (cI, 40, .inl kl)), (qm5, .inl (cL, 40, .inr (.inl ku))), (qh, .inr (0, [.ref qh1, .ref qh2, .int zh])), (qh1, .inl (cI, 20, .inl gt)), (qh2, .inl (cI, 20, .inl gu)), (qt, .inr (2, [.ref qt1, .int u])), (qt1, .inl (cL, 40, .inr (.inl kp)))]) (va_A [(qx, .inr (3, [.ref qm, .ref qh, .ref qt])), (qm, .inr (1, [.ref qm1, .ref qm2, .ref qm3, .ref qm4, .ref qm5, .int zm])), (qm1, .inl (cI, 40, .inl kt)), (qm2, .inl (cI, 40, .inl ks)), (qm3, .inl (cI, 40, .inl kf)), (qm4, .inl (cI, 40, .inl kl)), (qm5, .inl (cL, 40, .inr (.inl ku))), (qh, .inr (0, [.ref qh1, .ref qh2, .int zh])), (qh1, .inl (cI, 20, .inl gt)), (qh2, .inl (cI, 20, .inl gu)), (qt, .inr (2, [.ref qt1, .int zt])), (qt1, .inl (cL, 40, .inr (.inl kp)))] sz)) 0 0 (va_A [(qx, .inr (3, [.ref qm, .ref qh, .ref qt])), (qm, .inr (1, [.ref qm1, .ref qm2, .ref qm3, .ref qm4, .ref qm5, .int zm])), (qm1, .inl (cI, 40, .inl kt)), (qm2, .inl (cI, 40, .inl ks)), (qm3, .inl (cI, 40, .inl kf)), (qm4, .inl (cI, 40, .inl kl)), (qm5, .inl (cL, 40, .inr (.inl ku))), (qh, .inr (0, [.ref qh1, .ref qh2, .int zh])), (qh1, .inl (cI, 20, .inl gt)), (qh2, .inl (cI, 20, .inl gu)), (qt, .inr (2, [.ref qt1, .int zt])), (qt1, .inl (cL, 40, .inr (.inl kp)))] sz) := by
  refine Met.ofW (cc := cX3_noTaps) (maxL := 1) (ret := (some .int)) (by decide) rfl ?_
  intro p e s m args below meth c s₁ B hml hv
  obtain ⟨rfl, hsz, hP, hK, hD0, hN⟩ := hv
  have hx := B.exec
  have hb := B.bytes
  have hr := B.returns
  have hts := atoms_spec (ws := wsX3_noTaps) B.pre
  have hown : s.vm.findClass RX3 = some m.cls := findClass_of_methodNamed B.named
  have hlocks := B.notSynchronized
  subst hsz
  have hD := hD0.self (sz := s.heap.size)
  generalize hAe : va_A [(qx, .inr (3, [.ref qm, .ref qh, .ref qt])), (qm, .inr (1, [.ref qm1, .ref qm2, .ref qm3, .ref qm4, .ref qm5, .int zm])), (qm1, .inl (cI, 40, .inl kt)), (qm2, .inl (cI, 40, .inl ks)), (qm3, .inl (cI, 40, .inl kf)), (qm4, .inl (cI, 40, .inl kl)), (qm5, .inl (cL, 40, .inr (.inl ku))), (qh, .inr (0, [.ref qh1, .ref qh2, .int zh])), (qh1, .inl (cI, 20, .inl gt)), (qh2, .inl (cI, 20, .inl gu)), (qt, .inr (2, [.ref qt1, .int zt])), (qt1, .inl (cL, 40, .inr (.inl kp)))] s.heap.size = A at hD ⊢
  have hA : ∀ q : Nat, s.heap.size ≤ q → A q := fun q h => by rw [← hAe]; exact Or.inr h
  have hP : va_P G vwCl [(qx, .inr (3, [.ref qm, .ref qh, .ref qt])), (qm, .inr (1, [.ref qm1, .ref qm2, .ref qm3, .ref qm4, .ref qm5, .int zm])), (qm1, .inl (cI, 40, .inl kt)), (qm2, .inl (cI, 40, .inl ks)), (qm3, .inl (cI, 40, .inl kf)), (qm4, .inl (cI, 40, .inl kl)), (qm5, .inl (cL, 40, .inr (.inl ku))), (qh, .inr (0, [.ref qh1, .ref qh2, .int zh])), (qh1, .inl (cI, 20, .inl gt)), (qh2, .inl (cI, 20, .inl gu)), (qt, .inr (2, [.ref qt1, .int zt])), (qt1, .inl (cL, 40, .inr (.inl kp)))] s.heap := hP
  have hl := lv_entry ([.ref qx]) (n := 1) (Nat.le_of_ble_eq_true rfl)
  rw [lg_entry_eq]
  generalize (lg_sl ([.ref qx]) ++ List.replicate (1 - (lg_sl ([.ref qx])).length) Slot.unset).toArray = ls at hl ⊢
  have hl : lv_has ls 1 [(0, .ref qx)] := hl
  have hf26 := hts (.fieldLink RX3 26 "TempoMaps" "taps" "LTempoMaps$Taps;") (by decide +kernel)
  have hiX3 : ∀ w ∈ wsX30, w ∈ wsX3_noTaps := by decide +kernel
  refine w_h (A := A) hP (fun H locs hP hS => ?_)
  have hn40 := hOt.1
  refine lv_aload_n hx hb dX3_noTaps_0 rfl (lv_at hl 0 rfl) ?_
  refine va_get (D := G) (ci := 3) (v := .ref qt) (C := RX3) (T := TX3) (N := 3) hx hb hts hiX3 hown hK hP 0 rfl rfl 2 (by decide) hf26 (fun _ h9 => h9) rfl dX3_noTaps_1 ?_
  have hPc := hP.sub (ws' := [(qt, .inr (2, [.ref qt1, .int zt])), (qt1, .inl (cL, 40, .inr (.inl kp)))]) [10, 11] rfl
  have hDc := hD.sub (ws' := [(qt, .inr (2, [.ref qt1, .int zt])), (qt1, .inl (cL, 40, .inr (.inl kp)))]) [10, 11] (by decide) rfl
  have hcc := (ct_X2_removeAll l G cI cL H.size qt qt1 zt kp)
  refine rw_calli (wr := [(qx, .inr (3, [.ref qm, .ref qh, .ref qt])), (qm, .inr (1, [.ref qm1, .ref qm2, .ref qm3, .ref qm4, .ref qm5, .int zm])), (qm1, .inl (cI, 40, .inl kt)), (qm2, .inl (cI, 40, .inl ks)), (qm3, .inl (cI, 40, .inl kf)), (qm4, .inl (cI, 40, .inl kl)), (qm5, .inl (cL, 40, .inr (.inl ku))), (qh, .inr (0, [.ref qh1, .ref qh2, .int zh])), (qh1, .inl (cI, 20, .inl gt)), (qh2, .inl (cI, 20, .inl gu))]) (va_runV (As := []) (rest := []) ⟨hx, hb, hml, hown, hts⟩ hcc (cwV 0 hts gX3_noTaps_X2_removeAll rfl rfl rfl (by decide +kernel) ⟨Nat.le_of_ble_eq_true rfl, Nat.le_of_ble_eq_true rfl⟩) ⟨pre_blind, va_recv hK hPc (ci := 2) (q0 := 0) rfl rfl, pre_pass hK hN hPc hDc⟩ rfl rfl hl.1 rfl (lv_room (Nat.le_of_ble_eq_true rfl)) dX3_noTaps_4 ⟨Nat.le_of_ble_eq_true rfl, Nat.le_of_ble_eq_true rfl⟩) hP hD hS hA [10, 11] [0, 1, 2, 3, 4, 5, 6, 7, 8, 9] rfl rfl (by decide) (by decide) (fun r4 u4 H locs hw4 hP hD hS => ?_)
  obtain ⟨zt4, rfl⟩ : ∃ z, z = u4 := ⟨_, rfl⟩
  have hP : va_P G vwCl [(qx, .inr (3, [.ref qm, .ref qh, .ref qt])), (qm, .inr (1, [.ref qm1, .ref qm2, .ref qm3, .ref qm4, .ref qm5, .int zm])), (qm1, .inl (cI, 40, .inl kt)), (qm2, .inl (cI, 40, .inl ks)), (qm3, .inl (cI, 40, .inl kf)), (qm4, .inl (cI, 40, .inl kl)), (qm5, .inl (cL, 40, .inr (.inl ku))), (qh, .inr (0, [.ref qh1, .ref qh2, .int zh])), (qh1, .inl (cI, 20, .inl gt)), (qh2, .inl (cI, 20, .inl gu)), (qt, .inr (2, [.ref qt1, .int zt4])), (qt1, .inl (cL, 40, .inr (.inl kp)))] H := hP.sub [0, 1, 2, 3, 4, 5, 6, 7, 8, 9, 10, 11] rfl
  have hD : va_D A [(qx, .inr (3, [.ref qm, .ref qh, .ref qt])), (qm, .inr (1, [.ref qm1, .ref qm2, .ref qm3, .ref qm4, .ref qm5, .int zm])), (qm1, .inl (cI, 40, .inl kt)), (qm2, .inl (cI, 40, .inl ks)), (qm3, .inl (cI, 40, .inl kf)), (qm4, .inl (cI, 40, .inl kl)), (qm5, .inl (cL, 40, .inr (.inl ku))), (qh, .inr (0, [.ref qh1, .ref qh2, .int zh])), (qh1, .inl (cI, 20, .inl gt)), (qh2, .inl (cI, 20, .inl gu)), (qt, .inr (2, [.ref qt1, .int zt4])), (qt1, .inl (cL, 40, .inr (.inl kp)))] := hD.sub [0, 1, 2, 3, 4, 5, 6, 7, 8, 9, 10, 11] (by decide) rfl
  try dsimp only at hw4
  exact W.iret (v := r4) hx hb hr (fun t ht hW => ⟨⟨r4, zt4, rfl, (by (try dsimp only); exact ⟨by rw [hw4.1]; exact hnt, hw4.2⟩), by rw [ht]; exact hP, hD⟩, hS.F ht⟩) hS.2.2 dX3_noTaps_7
set_option maxHeartbeats 1000000 in
set_option maxRecDepth 100000 in
theorem ct_X3_fit (l : Launch) (G : va_G) (cI cL : ClassId) (sz : Nat) (qx : Nat) (qm : Nat) (qm1 : Nat) (qm2 : Nat) (qm3 : Nat) (qm4 : Nat) (qm5 : Nat) (zm : Int32) (kt : Nat → Int32) (ks : Nat → Int32) (kf : Nat → Int32) (kl : Nat → Int32) (ku : Nat → Int64) (qh : Nat) (qh1 : Nat) (qh2 : Nat) (zh : Int32) (gt : Nat → Int32) (gu : Nat → Int32) (qt : Nat) (qt1 : Nat) (zt : Int32) (kp : Nat → Int64) (p0 : Int32) (nm : Nat) (hnm : zm.toInt = nm) (hOm : okM nm kt ks kf kl) (hSr : srt nm kt) (hU : okU nm kt ks kf kl ku) (nh : Nat) (hnh : zh.toInt = nh) (hOh : okH nh gt gu) (nt : Nat) (hnt : zt.toInt = nt) (hOt : okT nt kp) : Met l yX3_fit wsX3_fit ({ frames := 2, cells := 0, slots := 0, locals := 53 }) (va_Pc [.ref qx, .int p0] (pre0 G cI cL [(qx, .inr (3, [.ref qm, .ref qh, .ref qt])), (qm, .inr (1, [.ref qm1, .ref qm2, .ref qm3, .ref qm4, .ref qm5, .int zm])), (qm1, .inl (cI, 40, .inl kt)), (qm2, .inl (cI, 40, .inl ks)), (qm3, .inl (cI, 40, .inl kf)), (qm4, .inl (cI, 40, .inl kl)), (qm5, .inl (cL, 40, .inr (.inl ku))), (qh, .inr (0, [.ref qh1, .ref qh2, .int zh])), (qh1, .inl (cI, 20, .inl gt)), (qh2, .inl (cI, 20, .inl gu)), (qt, .inr (2, [.ref qt1, .int zt])), (qt1, .inl (cL, 40, .inr (.inl kp)))] sz)) (va_Ql (fun (r : Int64) (u : Unit) => ((p0.toInt ≠ 0 ∧ p0.toInt ≠ 1) ∧ r.toInt = -2) ∨ ((p0.toInt = 0 ∨ p0.toInt = 1) ∧ nt < 2 ∧ r.toInt = -3) ∨ (2 ≤ nt ∧ fitS (abv nt kp) (blw nt) p0.toInt r.toInt)) (fun (u : Unit) t => va_P G vwCl [(qx, .inr (3, [.ref qm, .ref qh, .ref qt])), (qm, .inr (1, [.ref qm1, .ref qm2, .ref qm3, .ref qm4, .ref qm5, .int zm])), (qm1, .inl (cI, 40, .inl kt)), (qm2, .inl (cI, 40, .inl ks)), (qm3, .inl (cI, 40, .inl kf)), (qm4, .inl (cI, 40, .inl kl)), (qm5, .inl (cL, 40, .inr (.inl ku))), (qh, .inr (0, [.ref qh1, .ref qh2, .int zh])), (qh1, .inl (cI, 20, .inl gt)), (qh2, .inl (cI, 20, .inl gu)), (qt, .inr (2, [.ref qt1, .int zt])), (qt1, .inl (cL, 40, .inr (.inl kp)))] t.heap ∧ va_D (va_A [(qx, .inr (3, [.ref qm, .ref qh, .ref qt])), (qm, .inr (1, [.ref qm1, .ref qm2, .ref qm3, .ref qm4, .ref qm5, .int zm])), (qm1, .inl (cI, 40, .inl kt)), (qm2, .inl (cI, 40, .inl ks)), (qm3, .inl (cI, 40, .inl kf)), (qm4, .inl (cI, 40, .inl kl)), (qm5, .inl (cL, 40, .inr (.inl ku))), (qh, .inr (0, [.ref qh1, .ref qh2, .int zh])), (qh1, .inl (cI, 20, .inl gt)), (qh2, .inl (cI, 20, .inl gu)), (qt, .inr (2, [.ref qt1, .int zt])), (qt1, .inl (cL, 40, .inr (.inl kp)))] sz) [(qx, .inr (3, [.ref qm, .ref qh, .ref qt])), (qm, .inr (1, [.ref qm1, .ref qm2, .ref qm3, .ref qm4, .ref qm5, .int zm])), (qm1, .inl (cI, 40, .inl kt)), (qm2, .inl (cI, 40, .inl ks)), (qm3, .inl (cI, 40, .inl kf)), (qm4, .inl (cI, 40, .inl kl)), (qm5, .inl (cL, 40, .inr (.inl ku))), (qh, .inr (0, [.ref qh1, .ref qh2, .int zh])), (qh1, .inl (cI, 20, .inl gt)), (qh2, .inl (cI, 20, .inl gu)), (qt, .inr (2, [.ref qt1, .int zt])), (qt1, .inl (cL, 40, .inr (.inl kp)))]) (va_A [(qx, .inr (3, [.ref qm, .ref qh, .ref qt])), (qm, .inr (1, [.ref qm1, .ref qm2, .ref qm3, .ref qm4, .ref qm5, .int zm])), (qm1, .inl (cI, 40, .inl kt)), (qm2, .inl (cI, 40, .inl ks)), (qm3, .inl (cI, 40, .inl kf)), (qm4, .inl (cI, 40, .inl kl)), (qm5, .inl (cL, 40, .inr (.inl ku))), (qh, .inr (0, [.ref qh1, .ref qh2, .int zh])), (qh1, .inl (cI, 20, .inl gt)), (qh2, .inl (cI, 20, .inl gu)), (qt, .inr (2, [.ref qt1, .int zt])), (qt1, .inl (cL, 40, .inr (.inl kp)))] sz)) 0 0 (va_A [(qx, .inr (3, [.ref qm, .ref qh, .ref qt])), (qm, .inr (1, [.ref qm1, .ref qm2, .ref qm3, .ref qm4, .ref qm5, .int zm])), (qm1, .inl (cI, 40, .inl kt)), (qm2, .inl (cI, 40, .inl ks)), (qm3, .inl (cI, 40, .inl kf)), (qm4, .inl (cI, 40, .inl kl)), (qm5, .inl (cL, 40, .inr (.inl ku))), (qh, .inr (0, [.ref qh1, .ref qh2, .int zh])), (qh1, .inl (cI, 20, .inl gt)), (qh2, .inl (cI, 20, .inl gu)), (qt, .inr (2, [.ref qt1, .int zt])), (qt1, .inl (cL, 40, .inr (.inl kp)))] sz) := by
  refine Met.ofW (cc := cX3_fit) (maxL := 8) (ret := (some .long)) (by decide) rfl ?_
  intro p e s m args below meth c s₁ B hml hv
  obtain ⟨rfl, hsz, hP, hK, hD0, hN⟩ := hv
  have hx := B.exec
  have hb := B.bytes
  have hr := B.returns
  have hts := atoms_spec (ws := wsX3_fit) B.pre
  have hown : s.vm.findClass RX3 = some m.cls := findClass_of_methodNamed B.named
  have hlocks := B.notSynchronized
  subst hsz
  have hD := hD0.self (sz := s.heap.size)
  generalize hAe : va_A [(qx, .inr (3, [.ref qm, .ref qh, .ref qt])), (qm, .inr (1, [.ref qm1, .ref qm2, .ref qm3, .ref qm4, .ref qm5, .int zm])), (qm1, .inl (cI, 40, .inl kt)), (qm2, .inl (cI, 40, .inl ks)), (qm3, .inl (cI, 40, .inl kf)), (qm4, .inl (cI, 40, .inl kl)), (qm5, .inl (cL, 40, .inr (.inl ku))), (qh, .inr (0, [.ref qh1, .ref qh2, .int zh])), (qh1, .inl (cI, 20, .inl gt)), (qh2, .inl (cI, 20, .inl gu)), (qt, .inr (2, [.ref qt1, .int zt])), (qt1, .inl (cL, 40, .inr (.inl kp)))] s.heap.size = A at hD ⊢
  have hA : ∀ q : Nat, s.heap.size ≤ q → A q := fun q h => by rw [← hAe]; exact Or.inr h
  have hP : va_P G vwCl [(qx, .inr (3, [.ref qm, .ref qh, .ref qt])), (qm, .inr (1, [.ref qm1, .ref qm2, .ref qm3, .ref qm4, .ref qm5, .int zm])), (qm1, .inl (cI, 40, .inl kt)), (qm2, .inl (cI, 40, .inl ks)), (qm3, .inl (cI, 40, .inl kf)), (qm4, .inl (cI, 40, .inl kl)), (qm5, .inl (cL, 40, .inr (.inl ku))), (qh, .inr (0, [.ref qh1, .ref qh2, .int zh])), (qh1, .inl (cI, 20, .inl gt)), (qh2, .inl (cI, 20, .inl gu)), (qt, .inr (2, [.ref qt1, .int zt])), (qt1, .inl (cL, 40, .inr (.inl kp)))] s.heap := hP
  have hl := lv_entry ([.ref qx, .int p0]) (n := 8) (Nat.le_of_ble_eq_true rfl)
  rw [lg_entry_eq]
  generalize (lg_sl ([.ref qx, .int p0]) ++ List.replicate (8 - (lg_sl ([.ref qx, .int p0])).length) Slot.unset).toArray = ls at hl ⊢
  have hl : lv_has ls 8 [(0, .ref qx), (1, .int p0)] := hl
  have hf26 := hts (.fieldLink RX3 26 "TempoMaps" "taps" "LTempoMaps$Taps;") (by decide +kernel)
  have hiX2 : ∀ w ∈ wsX20, w ∈ wsX3_fit := by decide +kernel
  have hiX3 : ∀ w ∈ wsX30, w ∈ wsX3_fit := by decide +kernel
  have zi1 : ((1 : Int32)).toInt = 1 := by decide
  have zi2 : ((2 : Int32)).toInt = 2 := by decide
  have zlm3 : ((-3 : Int64)).toInt = -3 := by decide
  have zlm2 : ((-2 : Int64)).toInt = -2 := by decide
  refine w_h (A := A) hP (fun H locs hP hS => ?_)
  have hn40 := hOt.1
  have ar := abv_rng hOt
  have br := blw_all nt (by omega)
  refine lv_iload_n hx hb dX3_fit_0 rfl (lv_at hl 1 rfl) ?_
  refine lv_if_eq (tgt := 13) hx hb dX3_fit_1 (by decide) (fun c1 => ?_) (fun c1 => ?_)
  · have k1 : (p0.toInt : Int) = 0 := i_eq rfl (show ((0 : Int32)).toInt = 0 by decide) c1
    refine lv_aload_n hx hb dX3_fit_13 rfl (lv_at hl 0 rfl) ?_
    refine va_get (D := G) (ci := 3) (v := .ref qt) (C := RX3) (T := TX3) (N := 3) hx hb hts hiX3 hown hK hP 0 rfl rfl 2 (by decide) hf26 (fun _ h9 => h9) rfl dX3_fit_14 ?_
    refine va_getN (D := G) (ci := 2) (v := .int zt) (C := RX2) (T := TX2) (N := 2) hx hb hts hiX2 hown hK hP 10 rfl rfl 1 (by decide) (va_Nw.use rfl (hN.2.2.2)) (fun _ h9 => h9) rfl dX3_fit_17 ?_
    refine lv_iconst (v := 2) hx hb dX3_fit_20 (by decide) ?_
    refine lv_icmp_ge (tgt := 28) hx hb dX3_fit_21 (by decide) (fun c21 => ?_) (fun c21 => ?_)
    · have k21 : (2 : Int) ≤ zt.toInt := i_le (show ((2 : Int32)).toInt = 2 by decide) rfl c21
      refine lv_aload_n hx hb dX3_fit_28 rfl (lv_at hl 0 rfl) ?_
      refine va_get (D := G) (ci := 3) (v := .ref qt) (C := RX3) (T := TX3) (N := 3) hx hb hts hiX3 hown hK hP 0 rfl rfl 2 (by decide) hf26 (fun _ h9 => h9) rfl dX3_fit_29 ?_
      have hPc := hP.sub (ws' := [(qt, .inr (2, [.ref qt1, .int zt])), (qt1, .inl (cL, 40, .inr (.inl kp)))]) [10, 11] rfl
      have hDc := hD.sub (ws' := [(qt, .inr (2, [.ref qt1, .int zt])), (qt1, .inl (cL, 40, .inr (.inl kp)))]) [10, 11] (by decide) rfl
      have hcc := (ct_X2_above l G cI cL H.size qt qt1 zt kp nt hnt hOt)
      refine ro_calll (va_runV (As := []) (rest := []) ⟨hx, hb, hml, hown, hts⟩ hcc (cwV 0 hts gX3_fit_X2_above rfl rfl rfl (by decide +kernel) ⟨Nat.le_of_ble_eq_true rfl, Nat.le_of_ble_eq_true rfl⟩) ⟨pre_blind, va_recv hK hPc (ci := 2) (q0 := 0) rfl rfl, pre_pass hK hN hPc hDc⟩ rfl rfl hl.1 rfl (lv_room (Nat.le_of_ble_eq_true rfl)) dX3_fit_32 ⟨Nat.le_of_ble_eq_true rfl, Nat.le_of_ble_eq_true rfl⟩) hP hD hS hA [10, 11] rfl (fun r32 H locs hw32 hP hS => ?_)
      try dsimp only at hw32
      have ha : r32.toInt = abv nt kp := hw32
      refine lv_lstore_n (lv' := [(2, .long r32), (0, .ref qx), (1, .int p0)]) hx hb dX3_fit_35 rfl hl (by decide) rfl (fun ls hl => ?_)
      refine lv_aload_n hx hb dX3_fit_36 rfl (lv_at hl 1 rfl) ?_
      refine va_get (D := G) (ci := 3) (v := .ref qt) (C := RX3) (T := TX3) (N := 3) hx hb hts hiX3 hown hK hP 0 rfl rfl 2 (by decide) hf26 (fun _ h9 => h9) rfl dX3_fit_37 ?_
      have hPc := hP.sub (ws' := [(qt, .inr (2, [.ref qt1, .int zt])), (qt1, .inl (cL, 40, .inr (.inl kp)))]) [10, 11] rfl
      have hDc := hD.sub (ws' := [(qt, .inr (2, [.ref qt1, .int zt])), (qt1, .inl (cL, 40, .inr (.inl kp)))]) [10, 11] (by decide) rfl
      have hcc := (ct_X2_below l G cI cL H.size qt qt1 zt kp nt hnt hOt)
      refine ro_calll (va_runV (As := []) (rest := []) ⟨hx, hb, hml, hown, hts⟩ hcc (cwV 0 hts gX3_fit_X2_below rfl rfl rfl (by decide +kernel) ⟨Nat.le_of_ble_eq_true rfl, Nat.le_of_ble_eq_true rfl⟩) ⟨pre_blind, va_recv hK hPc (ci := 2) (q0 := 0) rfl rfl, pre_pass hK hN hPc hDc⟩ rfl rfl hl.1 rfl (lv_room (Nat.le_of_ble_eq_true rfl)) dX3_fit_40 ⟨Nat.le_of_ble_eq_true rfl, Nat.le_of_ble_eq_true rfl⟩) hP hD hS hA [10, 11] rfl (fun r40 H locs hw40 hP hS => ?_)
      try dsimp only at hw40
      have hb9 : r40.toInt = blw nt := hw40
      have hb8 := br.2.1 (by omega)
      refine lv_lstore (lv' := [(4, .long r40), (2, .long r32), (0, .ref qx), (1, .int p0)]) hx hb dX3_fit_43  hl (by decide) rfl (fun ls hl => ?_)
      refine lv_lload_n hx hb dX3_fit_45 rfl (lv_at hl 1 rfl) ?_
      refine lv_lload hx hb dX3_fit_46 (lv_at hl 0 rfl) ?_
      have hPc := hP.sub (ws' := ([] : va_W)) [] rfl
      have hDc := hD.sub (ws' := ([] : va_W)) [] (by decide) rfl
      have hcc := (ct_X3_commonDivisor l G cI cL H.size r32 r40 (by omega) (by omega))
      refine ro_calll (va_runS (As := [.long r32, .long r40]) (rest := []) ⟨hx, hb, hml, hown, hts⟩ hcc (va_cwS 2 hts gX3_fit_X3_commonDivisor rfl rfl rfl (by decide +kernel) ⟨Nat.le_of_ble_eq_true rfl, Nat.le_of_ble_eq_true rfl⟩) ⟨pre_blind, pre_pass hK hN hPc hDc⟩ rfl rfl hl.1 rfl (lv_room (Nat.le_of_ble_eq_true rfl)) dX3_fit_48 ⟨Nat.le_of_ble_eq_true rfl, Nat.le_of_ble_eq_true rfl⟩) hP hD hS hA [] rfl (fun r48 H locs hw48 hP hS => ?_)
      try dsimp only at hw48
      have hg := hw48
      rw [ha, hb9] at hg
      have gp : 0 < Nat.gcd (abv nt kp).toNat (blw nt).toNat := Nat.gcd_pos_of_pos_right _ (by omega)
      refine lv_lstore (lv' := [(6, .long r48), (4, .long r40), (2, .long r32), (0, .ref qx), (1, .int p0)]) hx hb dX3_fit_51  hl (by decide) rfl (fun ls hl => ?_)
      refine lv_iload_n hx hb dX3_fit_53 rfl (lv_at hl 4 rfl) ?_
      refine lv_if_ne (tgt := 61) hx hb dX3_fit_54 (by decide) (fun c54 => ?_) (fun c54 => ?_)
      · have k54 : (p0.toInt : Int) ≠ 0 := i_ne rfl (show ((0 : Int32)).toInt = 0 by decide) c54
        refine lv_lload hx hb dX3_fit_61 (lv_at hl 1 rfl) ?_
        refine lv_lload hx hb dX3_fit_63 (lv_at hl 0 rfl) ?_
        refine lv_ldiv hx hb dX3_fit_65 (l_ne0 rfl (by omega)) ?_
        refine lv_topl (fun x65 ex65 => ?_)
        have tx65 : x65.toInt = r40.toInt / r48.toInt := by rw [ex65]; exact tl_div rfl rfl (by omega) (by omega)
        have tq := tx65
        exact W.lret (v := x65) hx hb hr (fun t ht hW => ⟨⟨x65, (), rfl, (by (try dsimp only); exact (by first | exact Or.inr (Or.inr ⟨by omega, Or.inl ⟨by omega, by rw [tq, hg, ha]⟩⟩) | exact Or.inr (Or.inr ⟨by omega, Or.inr ⟨by omega, by rw [tq, hg, hb9]⟩⟩))), by rw [ht]; exact hP, hD⟩, hS.F ht⟩) hS.2.2 dX3_fit_66
      · have k54 : (p0.toInt : Int) = 0 := i_eq rfl (show ((0 : Int32)).toInt = 0 by decide) c54
        refine lv_lload_n hx hb dX3_fit_57 rfl (lv_at hl 2 rfl) ?_
        refine lv_goto (tgt := 63) hx hb dX3_fit_58 (by decide) ?_
        refine lv_lload hx hb dX3_fit_63 (lv_at hl 0 rfl) ?_
        refine lv_ldiv hx hb dX3_fit_65 (l_ne0 rfl (by omega)) ?_
        refine lv_topl (fun x65_2 ex65_2 => ?_)
        have tx65_2 : x65_2.toInt = r32.toInt / r48.toInt := by rw [ex65_2]; exact tl_div rfl rfl (by omega) (by omega)
        have tq := tx65_2
        exact W.lret (v := x65_2) hx hb hr (fun t ht hW => ⟨⟨x65_2, (), rfl, (by (try dsimp only); exact (by first | exact Or.inr (Or.inr ⟨by omega, Or.inl ⟨by omega, by rw [tq, hg, ha]⟩⟩) | exact Or.inr (Or.inr ⟨by omega, Or.inr ⟨by omega, by rw [tq, hg, hb9]⟩⟩))), by rw [ht]; exact hP, hD⟩, hS.F ht⟩) hS.2.2 dX3_fit_66
    · have k21 : (zt.toInt : Int) < 2 := i_nle (show ((2 : Int32)).toInt = 2 by decide) rfl c21
      refine lv_ldc2 (v := (-3)) hx hb hown (hts (.constantLong RX3 101 (-3)) (by decide +kernel)) dX3_fit_24 ?_
      exact W.lret (v := (-3)) hx hb hr (fun t ht hW => ⟨⟨(-3), (), rfl, (by (try dsimp only); exact (Or.inr (Or.inl ⟨by omega, by omega, by omega⟩))), by rw [ht]; exact hP, hD⟩, hS.F ht⟩) hS.2.2 dX3_fit_27
  · have k1 : (p0.toInt : Int) ≠ 0 := i_ne rfl (show ((0 : Int32)).toInt = 0 by decide) c1
    refine lv_iload_n hx hb dX3_fit_4 rfl (lv_at hl 1 rfl) ?_
    refine lv_iconst (v := 1) hx hb dX3_fit_5 (by decide) ?_
    refine lv_icmp_eq (tgt := 13) hx hb dX3_fit_6 (by decide) (fun c6 => ?_) (fun c6 => ?_)
    · have k6 : (p0.toInt : Int) = 1 := i_eq rfl (show ((1 : Int32)).toInt = 1 by decide) c6
      refine lv_aload_n hx hb dX3_fit_13 rfl (lv_at hl 0 rfl) ?_
      refine va_get (D := G) (ci := 3) (v := .ref qt) (C := RX3) (T := TX3) (N := 3) hx hb hts hiX3 hown hK hP 0 rfl rfl 2 (by decide) hf26 (fun _ h9 => h9) rfl dX3_fit_14 ?_
      refine va_getN (D := G) (ci := 2) (v := .int zt) (C := RX2) (T := TX2) (N := 2) hx hb hts hiX2 hown hK hP 10 rfl rfl 1 (by decide) (va_Nw.use rfl (hN.2.2.2)) (fun _ h9 => h9) rfl dX3_fit_17 ?_
      refine lv_iconst (v := 2) hx hb dX3_fit_20 (by decide) ?_
      refine lv_icmp_ge (tgt := 28) hx hb dX3_fit_21 (by decide) (fun c21 => ?_) (fun c21 => ?_)
      · have k21 : (2 : Int) ≤ zt.toInt := i_le (show ((2 : Int32)).toInt = 2 by decide) rfl c21
        refine lv_aload_n hx hb dX3_fit_28 rfl (lv_at hl 0 rfl) ?_
        refine va_get (D := G) (ci := 3) (v := .ref qt) (C := RX3) (T := TX3) (N := 3) hx hb hts hiX3 hown hK hP 0 rfl rfl 2 (by decide) hf26 (fun _ h9 => h9) rfl dX3_fit_29 ?_
        have hPc := hP.sub (ws' := [(qt, .inr (2, [.ref qt1, .int zt])), (qt1, .inl (cL, 40, .inr (.inl kp)))]) [10, 11] rfl
        have hDc := hD.sub (ws' := [(qt, .inr (2, [.ref qt1, .int zt])), (qt1, .inl (cL, 40, .inr (.inl kp)))]) [10, 11] (by decide) rfl
        have hcc := (ct_X2_above l G cI cL H.size qt qt1 zt kp nt hnt hOt)
        refine ro_calll (va_runV (As := []) (rest := []) ⟨hx, hb, hml, hown, hts⟩ hcc (cwV 0 hts gX3_fit_X2_above rfl rfl rfl (by decide +kernel) ⟨Nat.le_of_ble_eq_true rfl, Nat.le_of_ble_eq_true rfl⟩) ⟨pre_blind, va_recv hK hPc (ci := 2) (q0 := 0) rfl rfl, pre_pass hK hN hPc hDc⟩ rfl rfl hl.1 rfl (lv_room (Nat.le_of_ble_eq_true rfl)) dX3_fit_32 ⟨Nat.le_of_ble_eq_true rfl, Nat.le_of_ble_eq_true rfl⟩) hP hD hS hA [10, 11] rfl (fun r32_2 H locs hw32_2 hP hS => ?_)
        try dsimp only at hw32_2
        have ha : r32_2.toInt = abv nt kp := hw32_2
        refine lv_lstore_n (lv' := [(2, .long r32_2), (0, .ref qx), (1, .int p0)]) hx hb dX3_fit_35 rfl hl (by decide) rfl (fun ls hl => ?_)
        refine lv_aload_n hx hb dX3_fit_36 rfl (lv_at hl 1 rfl) ?_
        refine va_get (D := G) (ci := 3) (v := .ref qt) (C := RX3) (T := TX3) (N := 3) hx hb hts hiX3 hown hK hP 0 rfl rfl 2 (by decide) hf26 (fun _ h9 => h9) rfl dX3_fit_37 ?_
        have hPc := hP.sub (ws' := [(qt, .inr (2, [.ref qt1, .int zt])), (qt1, .inl (cL, 40, .inr (.inl kp)))]) [10, 11] rfl
        have hDc := hD.sub (ws' := [(qt, .inr (2, [.ref qt1, .int zt])), (qt1, .inl (cL, 40, .inr (.inl kp)))]) [10, 11] (by decide) rfl
        have hcc := (ct_X2_below l G cI cL H.size qt qt1 zt kp nt hnt hOt)
        refine ro_calll (va_runV (As := []) (rest := []) ⟨hx, hb, hml, hown, hts⟩ hcc (cwV 0 hts gX3_fit_X2_below rfl rfl rfl (by decide +kernel) ⟨Nat.le_of_ble_eq_true rfl, Nat.le_of_ble_eq_true rfl⟩) ⟨pre_blind, va_recv hK hPc (ci := 2) (q0 := 0) rfl rfl, pre_pass hK hN hPc hDc⟩ rfl rfl hl.1 rfl (lv_room (Nat.le_of_ble_eq_true rfl)) dX3_fit_40 ⟨Nat.le_of_ble_eq_true rfl, Nat.le_of_ble_eq_true rfl⟩) hP hD hS hA [10, 11] rfl (fun r40_2 H locs hw40_2 hP hS => ?_)
        try dsimp only at hw40_2
        have hb9 : r40_2.toInt = blw nt := hw40_2
        have hb8 := br.2.1 (by omega)
        refine lv_lstore (lv' := [(4, .long r40_2), (2, .long r32_2), (0, .ref qx), (1, .int p0)]) hx hb dX3_fit_43  hl (by decide) rfl (fun ls hl => ?_)
        refine lv_lload_n hx hb dX3_fit_45 rfl (lv_at hl 1 rfl) ?_
        refine lv_lload hx hb dX3_fit_46 (lv_at hl 0 rfl) ?_
        have hPc := hP.sub (ws' := ([] : va_W)) [] rfl
        have hDc := hD.sub (ws' := ([] : va_W)) [] (by decide) rfl
        have hcc := (ct_X3_commonDivisor l G cI cL H.size r32_2 r40_2 (by omega) (by omega))
        refine ro_calll (va_runS (As := [.long r32_2, .long r40_2]) (rest := []) ⟨hx, hb, hml, hown, hts⟩ hcc (va_cwS 2 hts gX3_fit_X3_commonDivisor rfl rfl rfl (by decide +kernel) ⟨Nat.le_of_ble_eq_true rfl, Nat.le_of_ble_eq_true rfl⟩) ⟨pre_blind, pre_pass hK hN hPc hDc⟩ rfl rfl hl.1 rfl (lv_room (Nat.le_of_ble_eq_true rfl)) dX3_fit_48 ⟨Nat.le_of_ble_eq_true rfl, Nat.le_of_ble_eq_true rfl⟩) hP hD hS hA [] rfl (fun r48_2 H locs hw48_2 hP hS => ?_)
        try dsimp only at hw48_2
        have hg := hw48_2
        rw [ha, hb9] at hg
        have gp : 0 < Nat.gcd (abv nt kp).toNat (blw nt).toNat := Nat.gcd_pos_of_pos_right _ (by omega)
        refine lv_lstore (lv' := [(6, .long r48_2), (4, .long r40_2), (2, .long r32_2), (0, .ref qx), (1, .int p0)]) hx hb dX3_fit_51  hl (by decide) rfl (fun ls hl => ?_)
        refine lv_iload_n hx hb dX3_fit_53 rfl (lv_at hl 4 rfl) ?_
        refine lv_if_ne (tgt := 61) hx hb dX3_fit_54 (by decide) (fun c54 => ?_) (fun c54 => ?_)
        · have k54 : (p0.toInt : Int) ≠ 0 := i_ne rfl (show ((0 : Int32)).toInt = 0 by decide) c54
          refine lv_lload hx hb dX3_fit_61 (lv_at hl 1 rfl) ?_
          refine lv_lload hx hb dX3_fit_63 (lv_at hl 0 rfl) ?_
          refine lv_ldiv hx hb dX3_fit_65 (l_ne0 rfl (by omega)) ?_
          refine lv_topl (fun x65_3 ex65_3 => ?_)
          have tx65_3 : x65_3.toInt = r40_2.toInt / r48_2.toInt := by rw [ex65_3]; exact tl_div rfl rfl (by omega) (by omega)
          have tq := tx65_3
          exact W.lret (v := x65_3) hx hb hr (fun t ht hW => ⟨⟨x65_3, (), rfl, (by (try dsimp only); exact (by first | exact Or.inr (Or.inr ⟨by omega, Or.inl ⟨by omega, by rw [tq, hg, ha]⟩⟩) | exact Or.inr (Or.inr ⟨by omega, Or.inr ⟨by omega, by rw [tq, hg, hb9]⟩⟩))), by rw [ht]; exact hP, hD⟩, hS.F ht⟩) hS.2.2 dX3_fit_66
        · have k54 : (p0.toInt : Int) = 0 := i_eq rfl (show ((0 : Int32)).toInt = 0 by decide) c54
          refine lv_lload_n hx hb dX3_fit_57 rfl (lv_at hl 2 rfl) ?_
          refine lv_goto (tgt := 63) hx hb dX3_fit_58 (by decide) ?_
          refine lv_lload hx hb dX3_fit_63 (lv_at hl 0 rfl) ?_
          refine lv_ldiv hx hb dX3_fit_65 (l_ne0 rfl (by omega)) ?_
          refine lv_topl (fun x65_4 ex65_4 => ?_)
          have tx65_4 : x65_4.toInt = r32_2.toInt / r48_2.toInt := by rw [ex65_4]; exact tl_div rfl rfl (by omega) (by omega)
          have tq := tx65_4
          exact W.lret (v := x65_4) hx hb hr (fun t ht hW => ⟨⟨x65_4, (), rfl, (by (try dsimp only); exact (by first | exact Or.inr (Or.inr ⟨by omega, Or.inl ⟨by omega, by rw [tq, hg, ha]⟩⟩) | exact Or.inr (Or.inr ⟨by omega, Or.inr ⟨by omega, by rw [tq, hg, hb9]⟩⟩))), by rw [ht]; exact hP, hD⟩, hS.F ht⟩) hS.2.2 dX3_fit_66
      · have k21 : (zt.toInt : Int) < 2 := i_nle (show ((2 : Int32)).toInt = 2 by decide) rfl c21
        refine lv_ldc2 (v := (-3)) hx hb hown (hts (.constantLong RX3 101 (-3)) (by decide +kernel)) dX3_fit_24 ?_
        exact W.lret (v := (-3)) hx hb hr (fun t ht hW => ⟨⟨(-3), (), rfl, (by (try dsimp only); exact (Or.inr (Or.inl ⟨by omega, by omega, by omega⟩))), by rw [ht]; exact hP, hD⟩, hS.F ht⟩) hS.2.2 dX3_fit_27
    · have k6 : (p0.toInt : Int) ≠ 1 := i_ne rfl (show ((1 : Int32)).toInt = 1 by decide) c6
      refine lv_ldc2 (v := (-2)) hx hb hown (hts (.constantLong RX3 72 (-2)) (by decide +kernel)) dX3_fit_9 ?_
      exact W.lret (v := (-2)) hx hb hr (fun t ht hW => ⟨⟨(-2), (), rfl, (by (try dsimp only); exact (Or.inl ⟨by omega, by omega⟩)), by rw [ht]; exact hP, hD⟩, hS.F ht⟩) hS.2.2 dX3_fit_12
set_option maxHeartbeats 1000000 in
set_option maxRecDepth 100000 in
theorem ct_X3_pace (l : Launch) (G : va_G) (cI cL : ClassId) (sz : Nat) (qx : Nat) (qm : Nat) (qm1 : Nat) (qm2 : Nat) (qm3 : Nat) (qm4 : Nat) (qm5 : Nat) (zm : Int32) (kt : Nat → Int32) (ks : Nat → Int32) (kf : Nat → Int32) (kl : Nat → Int32) (ku : Nat → Int64) (qh : Nat) (qh1 : Nat) (qh2 : Nat) (zh : Int32) (gt : Nat → Int32) (gu : Nat → Int32) (qt : Nat) (qt1 : Nat) (zt : Int32) (kp : Nat → Int64) (p0 : Int32) (nm : Nat) (hnm : zm.toInt = nm) (hOm : okM nm kt ks kf kl) (hSr : srt nm kt) (hU : okU nm kt ks kf kl ku) (nh : Nat) (hnh : zh.toInt = nh) (hOh : okH nh gt gu) (nt : Nat) (hnt : zt.toInt = nt) (hOt : okT nt kp) : Met l yX3_pace wsX3_pace ({ frames := 1, cells := 0, slots := 0, locals := 27 }) (va_Pc [.ref qx, .int p0] (pre0 G cI cL [(qx, .inr (3, [.ref qm, .ref qh, .ref qt])), (qm, .inr (1, [.ref qm1, .ref qm2, .ref qm3, .ref qm4, .ref qm5, .int zm])), (qm1, .inl (cI, 40, .inl kt)), (qm2, .inl (cI, 40, .inl ks)), (qm3, .inl (cI, 40, .inl kf)), (qm4, .inl (cI, 40, .inl kl)), (qm5, .inl (cL, 40, .inr (.inl ku))), (qh, .inr (0, [.ref qh1, .ref qh2, .int zh])), (qh1, .inl (cI, 20, .inl gt)), (qh2, .inl (cI, 20, .inl gu)), (qt, .inr (2, [.ref qt1, .int zt])), (qt1, .inl (cL, 40, .inr (.inl kp)))] sz)) (va_Ql (fun (r : Int64) (u : Unit) => ((p0.toInt < 1 ∨ 100000 < p0.toInt) ∧ r.toInt = -2) ∨ ((1 ≤ p0.toInt ∧ p0.toInt ≤ 100000) ∧ nt < 2 ∧ r.toInt = -3) ∨ ((1 ≤ p0.toInt ∧ p0.toInt ≤ 100000) ∧ 2 ≤ nt ∧ nearP (abv nt kp) (blw nt * p0.toInt) r.toInt)) (fun (u : Unit) t => va_P G vwCl [(qx, .inr (3, [.ref qm, .ref qh, .ref qt])), (qm, .inr (1, [.ref qm1, .ref qm2, .ref qm3, .ref qm4, .ref qm5, .int zm])), (qm1, .inl (cI, 40, .inl kt)), (qm2, .inl (cI, 40, .inl ks)), (qm3, .inl (cI, 40, .inl kf)), (qm4, .inl (cI, 40, .inl kl)), (qm5, .inl (cL, 40, .inr (.inl ku))), (qh, .inr (0, [.ref qh1, .ref qh2, .int zh])), (qh1, .inl (cI, 20, .inl gt)), (qh2, .inl (cI, 20, .inl gu)), (qt, .inr (2, [.ref qt1, .int zt])), (qt1, .inl (cL, 40, .inr (.inl kp)))] t.heap ∧ va_D (va_A [(qx, .inr (3, [.ref qm, .ref qh, .ref qt])), (qm, .inr (1, [.ref qm1, .ref qm2, .ref qm3, .ref qm4, .ref qm5, .int zm])), (qm1, .inl (cI, 40, .inl kt)), (qm2, .inl (cI, 40, .inl ks)), (qm3, .inl (cI, 40, .inl kf)), (qm4, .inl (cI, 40, .inl kl)), (qm5, .inl (cL, 40, .inr (.inl ku))), (qh, .inr (0, [.ref qh1, .ref qh2, .int zh])), (qh1, .inl (cI, 20, .inl gt)), (qh2, .inl (cI, 20, .inl gu)), (qt, .inr (2, [.ref qt1, .int zt])), (qt1, .inl (cL, 40, .inr (.inl kp)))] sz) [(qx, .inr (3, [.ref qm, .ref qh, .ref qt])), (qm, .inr (1, [.ref qm1, .ref qm2, .ref qm3, .ref qm4, .ref qm5, .int zm])), (qm1, .inl (cI, 40, .inl kt)), (qm2, .inl (cI, 40, .inl ks)), (qm3, .inl (cI, 40, .inl kf)), (qm4, .inl (cI, 40, .inl kl)), (qm5, .inl (cL, 40, .inr (.inl ku))), (qh, .inr (0, [.ref qh1, .ref qh2, .int zh])), (qh1, .inl (cI, 20, .inl gt)), (qh2, .inl (cI, 20, .inl gu)), (qt, .inr (2, [.ref qt1, .int zt])), (qt1, .inl (cL, 40, .inr (.inl kp)))]) (va_A [(qx, .inr (3, [.ref qm, .ref qh, .ref qt])), (qm, .inr (1, [.ref qm1, .ref qm2, .ref qm3, .ref qm4, .ref qm5, .int zm])), (qm1, .inl (cI, 40, .inl kt)), (qm2, .inl (cI, 40, .inl ks)), (qm3, .inl (cI, 40, .inl kf)), (qm4, .inl (cI, 40, .inl kl)), (qm5, .inl (cL, 40, .inr (.inl ku))), (qh, .inr (0, [.ref qh1, .ref qh2, .int zh])), (qh1, .inl (cI, 20, .inl gt)), (qh2, .inl (cI, 20, .inl gu)), (qt, .inr (2, [.ref qt1, .int zt])), (qt1, .inl (cL, 40, .inr (.inl kp)))] sz)) 0 0 (va_A [(qx, .inr (3, [.ref qm, .ref qh, .ref qt])), (qm, .inr (1, [.ref qm1, .ref qm2, .ref qm3, .ref qm4, .ref qm5, .int zm])), (qm1, .inl (cI, 40, .inl kt)), (qm2, .inl (cI, 40, .inl ks)), (qm3, .inl (cI, 40, .inl kf)), (qm4, .inl (cI, 40, .inl kl)), (qm5, .inl (cL, 40, .inr (.inl ku))), (qh, .inr (0, [.ref qh1, .ref qh2, .int zh])), (qh1, .inl (cI, 20, .inl gt)), (qh2, .inl (cI, 20, .inl gu)), (qt, .inr (2, [.ref qt1, .int zt])), (qt1, .inl (cL, 40, .inr (.inl kp)))] sz) := by
  refine Met.ofW (cc := cX3_pace) (maxL := 8) (ret := (some .long)) (by decide) rfl ?_
  intro p e s m args below meth c s₁ B hml hv
  obtain ⟨rfl, hsz, hP, hK, hD0, hN⟩ := hv
  have hx := B.exec
  have hb := B.bytes
  have hr := B.returns
  have hts := atoms_spec (ws := wsX3_pace) B.pre
  have hown : s.vm.findClass RX3 = some m.cls := findClass_of_methodNamed B.named
  have hlocks := B.notSynchronized
  subst hsz
  have hD := hD0.self (sz := s.heap.size)
  generalize hAe : va_A [(qx, .inr (3, [.ref qm, .ref qh, .ref qt])), (qm, .inr (1, [.ref qm1, .ref qm2, .ref qm3, .ref qm4, .ref qm5, .int zm])), (qm1, .inl (cI, 40, .inl kt)), (qm2, .inl (cI, 40, .inl ks)), (qm3, .inl (cI, 40, .inl kf)), (qm4, .inl (cI, 40, .inl kl)), (qm5, .inl (cL, 40, .inr (.inl ku))), (qh, .inr (0, [.ref qh1, .ref qh2, .int zh])), (qh1, .inl (cI, 20, .inl gt)), (qh2, .inl (cI, 20, .inl gu)), (qt, .inr (2, [.ref qt1, .int zt])), (qt1, .inl (cL, 40, .inr (.inl kp)))] s.heap.size = A at hD ⊢
  have hA : ∀ q : Nat, s.heap.size ≤ q → A q := fun q h => by rw [← hAe]; exact Or.inr h
  have hP : va_P G vwCl [(qx, .inr (3, [.ref qm, .ref qh, .ref qt])), (qm, .inr (1, [.ref qm1, .ref qm2, .ref qm3, .ref qm4, .ref qm5, .int zm])), (qm1, .inl (cI, 40, .inl kt)), (qm2, .inl (cI, 40, .inl ks)), (qm3, .inl (cI, 40, .inl kf)), (qm4, .inl (cI, 40, .inl kl)), (qm5, .inl (cL, 40, .inr (.inl ku))), (qh, .inr (0, [.ref qh1, .ref qh2, .int zh])), (qh1, .inl (cI, 20, .inl gt)), (qh2, .inl (cI, 20, .inl gu)), (qt, .inr (2, [.ref qt1, .int zt])), (qt1, .inl (cL, 40, .inr (.inl kp)))] s.heap := hP
  have hl := lv_entry ([.ref qx, .int p0]) (n := 8) (Nat.le_of_ble_eq_true rfl)
  rw [lg_entry_eq]
  generalize (lg_sl ([.ref qx, .int p0]) ++ List.replicate (8 - (lg_sl ([.ref qx, .int p0])).length) Slot.unset).toArray = ls at hl ⊢
  have hl : lv_has ls 8 [(0, .ref qx), (1, .int p0)] := hl
  have hf26 := hts (.fieldLink RX3 26 "TempoMaps" "taps" "LTempoMaps$Taps;") (by decide +kernel)
  have hiX3 : ∀ w ∈ wsX30, w ∈ wsX3_pace := by decide +kernel
  have zi1 : ((1 : Int32)).toInt = 1 := by decide
  have zi100000 : ((100000 : Int32)).toInt = 100000 := by decide
  have zlm3 : ((-3 : Int64)).toInt = -3 := by decide
  have zlm2 : ((-2 : Int64)).toInt = -2 := by decide
  have zl1 : ((1 : Int64)).toInt = 1 := by decide
  have zl2 : ((2 : Int64)).toInt = 2 := by decide
  refine w_h (A := A) hP (fun H locs hP hS => ?_)
  have hn40 := hOt.1
  have ar := abv_rng hOt
  have br := blw_all nt (by omega)
  refine lv_iload_n hx hb dX3_pace_0 rfl (lv_at hl 1 rfl) ?_
  refine lv_iconst (v := 1) hx hb dX3_pace_1 (by decide) ?_
  refine lv_ldc (v := 100000) hx hb hown (hts (.constant RX3 114 100000) (by decide +kernel)) dX3_pace_2 ?_
  have hPc := hP.sub (ws' := ([] : va_W)) [] rfl
  have hDc := hD.sub (ws' := ([] : va_W)) [] (by decide) rfl
  have hcc := (ct_X3_isWithin l G cI cL H.size p0 1 100000)
  refine ro_calli (va_runS (As := [.int p0, .int 1, .int 100000]) (rest := []) ⟨hx, hb, hml, hown, hts⟩ hcc (va_cwS 3 hts gX3_pace_X3_isWithin rfl rfl rfl (by decide +kernel) ⟨Nat.le_of_ble_eq_true rfl, Nat.le_of_ble_eq_true rfl⟩) ⟨pre_blind, pre_pass hK hN hPc hDc⟩ rfl rfl hl.1 rfl (lv_room (Nat.le_of_ble_eq_true rfl)) dX3_pace_4 ⟨Nat.le_of_ble_eq_true rfl, Nat.le_of_ble_eq_true rfl⟩) hP hD hS hA [] rfl (fun r4 H locs hw4 hP hS => ?_)
  try dsimp only at hw4
  refine lv_if_ne (tgt := 14) hx hb dX3_pace_7 (by decide) (fun c7 => ?_) (fun c7 => ?_)
  · have k7 : (r4.toInt : Int) ≠ 0 := i_ne rfl (show ((0 : Int32)).toInt = 0 by decide) c7
    refine lv_aload_n hx hb dX3_pace_14 rfl (lv_at hl 0 rfl) ?_
    refine va_get (D := G) (ci := 3) (v := .ref qt) (C := RX3) (T := TX3) (N := 3) hx hb hts hiX3 hown hK hP 0 rfl rfl 2 (by decide) hf26 (fun _ h9 => h9) rfl dX3_pace_15 ?_
    have hPc := hP.sub (ws' := [(qt, .inr (2, [.ref qt1, .int zt])), (qt1, .inl (cL, 40, .inr (.inl kp)))]) [10, 11] rfl
    have hDc := hD.sub (ws' := [(qt, .inr (2, [.ref qt1, .int zt])), (qt1, .inl (cL, 40, .inr (.inl kp)))]) [10, 11] (by decide) rfl
    have hcc := (ct_X2_above l G cI cL H.size qt qt1 zt kp nt hnt hOt)
    refine ro_calll (va_runV (As := []) (rest := []) ⟨hx, hb, hml, hown, hts⟩ hcc (cwV 0 hts gX3_pace_X2_above rfl rfl rfl (by decide +kernel) ⟨Nat.le_of_ble_eq_true rfl, Nat.le_of_ble_eq_true rfl⟩) ⟨pre_blind, va_recv hK hPc (ci := 2) (q0 := 0) rfl rfl, pre_pass hK hN hPc hDc⟩ rfl rfl hl.1 rfl (lv_room (Nat.le_of_ble_eq_true rfl)) dX3_pace_18 ⟨Nat.le_of_ble_eq_true rfl, Nat.le_of_ble_eq_true rfl⟩) hP hD hS hA [10, 11] rfl (fun r18 H locs hw18 hP hS => ?_)
    try dsimp only at hw18
    have ha : r18.toInt = abv nt kp := hw18
    refine lv_lstore_n (lv' := [(2, .long r18), (0, .ref qx), (1, .int p0)]) hx hb dX3_pace_21 rfl hl (by decide) rfl (fun ls hl => ?_)
    refine lv_aload_n hx hb dX3_pace_22 rfl (lv_at hl 1 rfl) ?_
    refine va_get (D := G) (ci := 3) (v := .ref qt) (C := RX3) (T := TX3) (N := 3) hx hb hts hiX3 hown hK hP 0 rfl rfl 2 (by decide) hf26 (fun _ h9 => h9) rfl dX3_pace_23 ?_
    have hPc := hP.sub (ws' := [(qt, .inr (2, [.ref qt1, .int zt])), (qt1, .inl (cL, 40, .inr (.inl kp)))]) [10, 11] rfl
    have hDc := hD.sub (ws' := [(qt, .inr (2, [.ref qt1, .int zt])), (qt1, .inl (cL, 40, .inr (.inl kp)))]) [10, 11] (by decide) rfl
    have hcc := (ct_X2_below l G cI cL H.size qt qt1 zt kp nt hnt hOt)
    refine ro_calll (va_runV (As := []) (rest := []) ⟨hx, hb, hml, hown, hts⟩ hcc (cwV 0 hts gX3_pace_X2_below rfl rfl rfl (by decide +kernel) ⟨Nat.le_of_ble_eq_true rfl, Nat.le_of_ble_eq_true rfl⟩) ⟨pre_blind, va_recv hK hPc (ci := 2) (q0 := 0) rfl rfl, pre_pass hK hN hPc hDc⟩ rfl rfl hl.1 rfl (lv_room (Nat.le_of_ble_eq_true rfl)) dX3_pace_26 ⟨Nat.le_of_ble_eq_true rfl, Nat.le_of_ble_eq_true rfl⟩) hP hD hS hA [10, 11] rfl (fun r26 H locs hw26 hP hS => ?_)
    try dsimp only at hw26
    have hb9 : r26.toInt = blw nt := hw26
    have hb0 : 0 ≤ blw nt := by rcases Nat.lt_or_ge nt 2 with q | q; have := br.1 q; omega; have := br.2.1 q; omega
    refine lv_iload_n hx hb dX3_pace_29 rfl (lv_at hl 2 rfl) ?_
    refine lv_i2l hx hb dX3_pace_30 rfl ?_
    refine lv_topl (fun x30 ex30 => ?_)
    have tx30 : x30.toInt = p0.toInt := by rw [ex30]; exact tc_i2l rfl
    have b31 := mul_bnd (show 0 ≤ r26.toInt ∧ r26.toInt ≤ 2560000 by omega) (show 0 ≤ p0.toInt ∧ p0.toInt ≤ 100000 by omega)
    refine lv_lmul hx hb dX3_pace_31 ?_
    refine lv_topl (fun x31 ex31 => ?_)
    have tx31 : x31.toInt = r26.toInt * p0.toInt := by rw [ex31]; exact tl_mul rfl tx30 (by omega) (by omega)
    refine lv_lstore (lv' := [(4, .long x31), (2, .long r18), (0, .ref qx), (1, .int p0)]) hx hb dX3_pace_32  hl (by decide) rfl (fun ls hl => ?_)
    refine lv_lload hx hb dX3_pace_34 (lv_at hl 0 rfl) ?_
    refine lv_lconst (v := 1) hx hb dX3_pace_36 (by decide) ?_
    refine W.lcmp hx hb dX3_pace_37 ?_
    refine lv_if_ge (tgt := 45) hx hb dX3_pace_38 (by decide) (fun c38 => ?_) (fun c38 => ?_)
    · have k38 : (1 : Int) ≤ x31.toInt := l_le (show ((1 : Int64)).toInt = 1 by decide) rfl ((lg_cmp_ge _ _).mp c38)
      have n2 : 2 ≤ nt := by rcases Nat.lt_or_ge nt 2 with q | q; have h1 := br.1 q; rw [hb9, h1, Int.zero_mul] at tx31; omega; exact q
      have e31 : x31.toInt = blw nt * p0.toInt := by rw [tx31, hb9]
      refine lv_lload_n hx hb dX3_pace_45 rfl (lv_at hl 1 rfl) ?_
      refine lv_lload hx hb dX3_pace_46 (lv_at hl 0 rfl) ?_
      refine lv_ldiv hx hb dX3_pace_48 (l_ne0 rfl (by omega)) ?_
      refine lv_topl (fun x48 ex48 => ?_)
      have tx48 : x48.toInt = r18.toInt / x31.toInt := by rw [ex48]; exact tl_div rfl rfl (by omega) (by omega)
      refine lv_lstore (lv' := [(6, .long x48), (4, .long x31), (2, .long r18), (0, .ref qx), (1, .int p0)]) hx hb dX3_pace_49  hl (by decide) rfl (fun ls hl => ?_)
      refine lv_ldc2 (v := 2) hx hb hown (hts (.constantLong RX3 115 2) (by decide +kernel)) dX3_pace_51 ?_
      refine lv_lload_n hx hb dX3_pace_54 rfl (lv_at hl 2 rfl) ?_
      refine lv_lload hx hb dX3_pace_55 (lv_at hl 1 rfl) ?_
      refine lv_lrem hx hb dX3_pace_57 (l_ne0 rfl (by omega)) ?_
      refine lv_topl (fun x57 ex57 => ?_)
      have tx57 : x57.toInt = r18.toInt % x31.toInt := by rw [ex57]; exact tl_rem rfl rfl (by omega) (by omega)
      have b57 : 0 ≤ x57.toInt ∧ x57.toInt < x31.toInt := by rw [tx57]; exact ⟨Int.emod_nonneg _ (by omega), Int.emod_lt_of_pos _ (by omega)⟩
      refine lv_lmul hx hb dX3_pace_58 ?_
      refine lv_topl (fun x58 ex58 => ?_)
      have tx58 : x58.toInt = 2 * x57.toInt := by rw [ex58]; exact tl_mul (show ((2 : Int64)).toInt = 2 by decide) rfl (by omega) (by omega)
      refine lv_lload hx hb dX3_pace_59 (lv_at hl 1 rfl) ?_
      refine W.lcmp hx hb dX3_pace_61 ?_
      refine lv_if_le (tgt := 72) hx hb dX3_pace_62 (by decide) (fun c62 => ?_) (fun c62 => ?_)
      · have k62 : (x58.toInt : Int) ≤ x31.toInt := l_le rfl rfl ((lg_cmp_le _ _).mp c62)
        refine lv_lload hx hb dX3_pace_72 (lv_at hl 0 rfl) ?_
        exact W.lret (v := x48) hx hb hr (fun t ht hW => ⟨⟨x48, (), rfl, (by (try dsimp only); exact (by first | exact Or.inr (Or.inr ⟨by omega, n2, by rw [tx68, tx48, ha, e31]; exact near_hi (by omega) (by rw [← e31, ← ha, ← tx57]; omega)⟩) | exact Or.inr (Or.inr ⟨by omega, n2, by rw [tx48, ha, e31]; exact near_lo (by omega) (by rw [← e31, ← ha, ← tx57]; omega)⟩))), by rw [ht]; exact hP, hD⟩, hS.F ht⟩) hS.2.2 dX3_pace_74
      · have k62 : (x31.toInt : Int) < x58.toInt := l_nle rfl rfl (fun h9 => c62 ((lg_cmp_le _ _).mpr h9))
        refine lv_lload hx hb dX3_pace_65 (lv_at hl 0 rfl) ?_
        refine lv_lconst (v := 1) hx hb dX3_pace_67 (by decide) ?_
        have b48 : x48.toInt ≤ abv nt kp := by rw [tx48, ha]; exact Int.ediv_le_self _ ar.1
        have b47 : 0 ≤ x48.toInt := by rw [tx48]; exact Int.ediv_nonneg (by omega) (by omega)
        refine lv_ladd hx hb dX3_pace_68 ?_
        refine lv_topl (fun x68 ex68 => ?_)
        have tx68 : x68.toInt = x48.toInt + 1 := by rw [ex68]; exact tl_add rfl (show ((1 : Int64)).toInt = 1 by decide) (by omega) (by omega)
        refine lv_goto (tgt := 74) hx hb dX3_pace_69 (by decide) ?_
        exact W.lret (v := x68) hx hb hr (fun t ht hW => ⟨⟨x68, (), rfl, (by (try dsimp only); exact (by first | exact Or.inr (Or.inr ⟨by omega, n2, by rw [tx68, tx48, ha, e31]; exact near_hi (by omega) (by rw [← e31, ← ha, ← tx57]; omega)⟩) | exact Or.inr (Or.inr ⟨by omega, n2, by rw [tx48, ha, e31]; exact near_lo (by omega) (by rw [← e31, ← ha, ← tx57]; omega)⟩))), by rw [ht]; exact hP, hD⟩, hS.F ht⟩) hS.2.2 dX3_pace_74
    · have k38 : (x31.toInt : Int) < 1 := l_nle (show ((1 : Int64)).toInt = 1 by decide) rfl (fun h9 => c38 ((lg_cmp_ge _ _).mpr h9))
      have n2 : nt < 2 := by rcases Nat.lt_or_ge nt 2 with q | q; exact q; have h1 := br.2.1 q; have h2 := mul_ge1 (a := blw nt) (b := p0.toInt) h1 (by omega); rw [hb9] at tx31; omega
      refine lv_ldc2 (v := (-3)) hx hb hown (hts (.constantLong RX3 101 (-3)) (by decide +kernel)) dX3_pace_41 ?_
      exact W.lret (v := (-3)) hx hb hr (fun t ht hW => ⟨⟨(-3), (), rfl, (by (try dsimp only); exact (Or.inr (Or.inl ⟨by omega, n2, by omega⟩))), by rw [ht]; exact hP, hD⟩, hS.F ht⟩) hS.2.2 dX3_pace_44
  · have k7 : (r4.toInt : Int) = 0 := i_eq rfl (show ((0 : Int32)).toInt = 0 by decide) c7
    refine lv_ldc2 (v := (-2)) hx hb hown (hts (.constantLong RX3 72 (-2)) (by decide +kernel)) dX3_pace_10 ?_
    exact W.lret (v := (-2)) hx hb hr (fun t ht hW => ⟨⟨(-2), (), rfl, (by (try dsimp only); exact (Or.inl ⟨by omega, by omega⟩)), by rw [ht]; exact hP, hD⟩, hS.F ht⟩) hS.2.2 dX3_pace_13

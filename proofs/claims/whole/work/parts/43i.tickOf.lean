set_option maxHeartbeats 1000000 in
set_option maxRecDepth 100000 in
theorem ct_X3_tickOf (l : Launch) (G : va_G) (cI cL : ClassId) (sz : Nat) (qx : Nat) (qm : Nat) (qm1 : Nat) (qm2 : Nat) (qm3 : Nat) (qm4 : Nat) (qm5 : Nat) (zm : Int32) (kt : Nat → Int32) (ks : Nat → Int32) (kf : Nat → Int32) (kl : Nat → Int32) (ku : Nat → Int64) (qh : Nat) (qh1 : Nat) (qh2 : Nat) (zh : Int32) (gt : Nat → Int32) (gu : Nat → Int32) (qt : Nat) (qt1 : Nat) (zt : Int32) (kp : Nat → Int64) (p0 : Int64) (p1 : Int32) (nm : Nat) (hnm : zm.toInt = nm) (hOm : okM nm kt ks kf kl) (hSr : srt nm kt) (hU : okU nm kt ks kf kl ku) (nh : Nat) (hnh : zh.toInt = nh) (hOh : okH nh gt gu) (nt : Nat) (hnt : zt.toInt = nt) (hOt : okT nt kp) : Met l yX3_tickOf wsX3_tickOf ({ frames := 6, cells := 0, slots := 0, locals := 155 }) (va_Pc [.ref qx, .long p0, .int p1] (pre0 G cI cL [(qx, .inr (3, [.ref qm, .ref qh, .ref qt])), (qm, .inr (1, [.ref qm1, .ref qm2, .ref qm3, .ref qm4, .ref qm5, .int zm])), (qm1, .inl (cI, 40, .inl kt)), (qm2, .inl (cI, 40, .inl ks)), (qm3, .inl (cI, 40, .inl kf)), (qm4, .inl (cI, 40, .inl kl)), (qm5, .inl (cL, 40, .inr (.inl ku))), (qh, .inr (0, [.ref qh1, .ref qh2, .int zh])), (qh1, .inl (cI, 20, .inl gt)), (qh2, .inl (cI, 20, .inl gu)), (qt, .inr (2, [.ref qt1, .int zt])), (qt1, .inl (cL, 40, .inr (.inl kp)))] sz)) (va_Qi (fun (r : Int32) (u : Unit) => ((p0.toInt < 0 ∨ p1.toInt < 1 ∨ 192000 < p1.toInt) ∧ r.toInt = -2) ∨ ((0 ≤ p0.toInt ∧ 1 ≤ p1.toInt ∧ p1.toInt ≤ 192000) ∧ tkOf (Bg (paceF kt ks kf kl nm) gt gu nh) (p0.toInt * 1000000) p1.toInt r.toInt)) (fun (u : Unit) t => va_P G vwCl [(qx, .inr (3, [.ref qm, .ref qh, .ref qt])), (qm, .inr (1, [.ref qm1, .ref qm2, .ref qm3, .ref qm4, .ref qm5, .int zm])), (qm1, .inl (cI, 40, .inl kt)), (qm2, .inl (cI, 40, .inl ks)), (qm3, .inl (cI, 40, .inl kf)), (qm4, .inl (cI, 40, .inl kl)), (qm5, .inl (cL, 40, .inr (.inl ku))), (qh, .inr (0, [.ref qh1, .ref qh2, .int zh])), (qh1, .inl (cI, 20, .inl gt)), (qh2, .inl (cI, 20, .inl gu)), (qt, .inr (2, [.ref qt1, .int zt])), (qt1, .inl (cL, 40, .inr (.inl kp)))] t.heap ∧ va_D (va_A [(qx, .inr (3, [.ref qm, .ref qh, .ref qt])), (qm, .inr (1, [.ref qm1, .ref qm2, .ref qm3, .ref qm4, .ref qm5, .int zm])), (qm1, .inl (cI, 40, .inl kt)), (qm2, .inl (cI, 40, .inl ks)), (qm3, .inl (cI, 40, .inl kf)), (qm4, .inl (cI, 40, .inl kl)), (qm5, .inl (cL, 40, .inr (.inl ku))), (qh, .inr (0, [.ref qh1, .ref qh2, .int zh])), (qh1, .inl (cI, 20, .inl gt)), (qh2, .inl (cI, 20, .inl gu)), (qt, .inr (2, [.ref qt1, .int zt])), (qt1, .inl (cL, 40, .inr (.inl kp)))] sz) [(qx, .inr (3, [.ref qm, .ref qh, .ref qt])), (qm, .inr (1, [.ref qm1, .ref qm2, .ref qm3, .ref qm4, .ref qm5, .int zm])), (qm1, .inl (cI, 40, .inl kt)), (qm2, .inl (cI, 40, .inl ks)), (qm3, .inl (cI, 40, .inl kf)), (qm4, .inl (cI, 40, .inl kl)), (qm5, .inl (cL, 40, .inr (.inl ku))), (qh, .inr (0, [.ref qh1, .ref qh2, .int zh])), (qh1, .inl (cI, 20, .inl gt)), (qh2, .inl (cI, 20, .inl gu)), (qt, .inr (2, [.ref qt1, .int zt])), (qt1, .inl (cL, 40, .inr (.inl kp)))]) (va_A [(qx, .inr (3, [.ref qm, .ref qh, .ref qt])), (qm, .inr (1, [.ref qm1, .ref qm2, .ref qm3, .ref qm4, .ref qm5, .int zm])), (qm1, .inl (cI, 40, .inl kt)), (qm2, .inl (cI, 40, .inl ks)), (qm3, .inl (cI, 40, .inl kf)), (qm4, .inl (cI, 40, .inl kl)), (qm5, .inl (cL, 40, .inr (.inl ku))), (qh, .inr (0, [.ref qh1, .ref qh2, .int zh])), (qh1, .inl (cI, 20, .inl gt)), (qh2, .inl (cI, 20, .inl gu)), (qt, .inr (2, [.ref qt1, .int zt])), (qt1, .inl (cL, 40, .inr (.inl kp)))] sz)) 0 0 (va_A [(qx, .inr (3, [.ref qm, .ref qh, .ref qt])), (qm, .inr (1, [.ref qm1, .ref qm2, .ref qm3, .ref qm4, .ref qm5, .int zm])), (qm1, .inl (cI, 40, .inl kt)), (qm2, .inl (cI, 40, .inl ks)), (qm3, .inl (cI, 40, .inl kf)), (qm4, .inl (cI, 40, .inl kl)), (qm5, .inl (cL, 40, .inr (.inl ku))), (qh, .inr (0, [.ref qh1, .ref qh2, .int zh])), (qh1, .inl (cI, 20, .inl gt)), (qh2, .inl (cI, 20, .inl gu)), (qt, .inr (2, [.ref qt1, .int zt])), (qt1, .inl (cL, 40, .inr (.inl kp)))] sz) := by
  refine Met.ofW (cc := cX3_tickOf) (maxL := 6) (ret := (some .int)) (by decide) rfl ?_
  intro p e s m args below meth c s₁ B hml hv
  obtain ⟨rfl, hsz, hP, hK, hD0, hN⟩ := hv
  have hx := B.exec
  have hb := B.bytes
  have hr := B.returns
  have hts := atoms_spec (ws := wsX3_tickOf) B.pre
  have hown : s.vm.findClass RX3 = some m.cls := findClass_of_methodNamed B.named
  have hlocks := B.notSynchronized
  subst hsz
  have hD := hD0.self (sz := s.heap.size)
  generalize hAe : va_A [(qx, .inr (3, [.ref qm, .ref qh, .ref qt])), (qm, .inr (1, [.ref qm1, .ref qm2, .ref qm3, .ref qm4, .ref qm5, .int zm])), (qm1, .inl (cI, 40, .inl kt)), (qm2, .inl (cI, 40, .inl ks)), (qm3, .inl (cI, 40, .inl kf)), (qm4, .inl (cI, 40, .inl kl)), (qm5, .inl (cL, 40, .inr (.inl ku))), (qh, .inr (0, [.ref qh1, .ref qh2, .int zh])), (qh1, .inl (cI, 20, .inl gt)), (qh2, .inl (cI, 20, .inl gu)), (qt, .inr (2, [.ref qt1, .int zt])), (qt1, .inl (cL, 40, .inr (.inl kp)))] s.heap.size = A at hD ⊢
  have hA : ∀ q : Nat, s.heap.size ≤ q → A q := fun q h => by rw [← hAe]; exact Or.inr h
  have hP : va_P G vwCl [(qx, .inr (3, [.ref qm, .ref qh, .ref qt])), (qm, .inr (1, [.ref qm1, .ref qm2, .ref qm3, .ref qm4, .ref qm5, .int zm])), (qm1, .inl (cI, 40, .inl kt)), (qm2, .inl (cI, 40, .inl ks)), (qm3, .inl (cI, 40, .inl kf)), (qm4, .inl (cI, 40, .inl kl)), (qm5, .inl (cL, 40, .inr (.inl ku))), (qh, .inr (0, [.ref qh1, .ref qh2, .int zh])), (qh1, .inl (cI, 20, .inl gt)), (qh2, .inl (cI, 20, .inl gu)), (qt, .inr (2, [.ref qt1, .int zt])), (qt1, .inl (cL, 40, .inr (.inl kp)))] s.heap := hP
  have hl := lv_entry ([.ref qx, .long p0, .int p1]) (n := 6) (Nat.le_of_ble_eq_true rfl)
  rw [lg_entry_eq]
  generalize (lg_sl ([.ref qx, .long p0, .int p1]) ++ List.replicate (6 - (lg_sl ([.ref qx, .long p0, .int p1])).length) Slot.unset).toArray = ls at hl ⊢
  have hl : lv_has ls 6 [(0, .ref qx), (1, .long p0), (3, .int p1)] := hl
  have zim2 : ((-2 : Int32)).toInt = -2 := by decide
  have zim1 : ((-1 : Int32)).toInt = -1 := by decide
  have zi1 : ((1 : Int32)).toInt = 1 := by decide
  have zi192000 : ((192000 : Int32)).toInt = 192000 := by decide
  have zi1000000 : ((1000000 : Int32)).toInt = 1000000 := by decide
  have zl0 : ((0 : Int64)).toInt = 0 := by decide
  have zl1 : ((1 : Int64)).toInt = 1 := by decide
  have zl1000000 : ((1000000 : Int64)).toInt = 1000000 := by decide
  refine w_h (A := A) hP (fun H locs hP hS => ?_)
  have hn40 := hOm.1
  have hrg := hOm.2.1
  have zz0 : ((0 : Int32)).toInt = 0 := by decide
  have hB := fun (x : Nat) (hx : x ≤ 1000000) => Bg_rng (P := paceF kt ks kf kl nm) (pace_rng hOm) hOh hx
  refine lv_lload_n hx hb dX3_tickOf_0 rfl (lv_at hl 1 rfl) ?_
  refine lv_lconst (v := 0) hx hb dX3_tickOf_1 (by decide) ?_
  refine W.lcmp hx hb dX3_tickOf_2 ?_
  refine lv_if_lt (tgt := 16) hx hb dX3_tickOf_3 (by decide) (fun c3 => ?_) (fun c3 => ?_)
  · have k3 : (p0.toInt : Int) < 0 := l_lt rfl (show ((0 : Int64)).toInt = 0 by decide) ((lg_cmp_lt _ _).mp c3)
    refine lv_bipush (v := (-2)) hx hb dX3_tickOf_16 (by decide) ?_
    exact W.iret (v := (-2)) hx hb hr (fun t ht hW => ⟨⟨(-2), (), rfl, (by (try dsimp only); exact (Or.inl ⟨by omega, by omega⟩)), by rw [ht]; exact hP, hD⟩, hS.F ht⟩) hS.2.2 dX3_tickOf_18
  · have k3 : (0 : Int) ≤ p0.toInt := l_nlt rfl (show ((0 : Int64)).toInt = 0 by decide) (fun h9 => c3 ((lg_cmp_lt _ _).mpr h9))
    refine lv_iload_n hx hb dX3_tickOf_6 rfl (lv_at hl 2 rfl) ?_
    refine lv_iconst (v := 1) hx hb dX3_tickOf_7 (by decide) ?_
    refine lv_ldc (v := 192000) hx hb hown (hts (.constant RX3 82 192000) (by decide +kernel)) dX3_tickOf_8 ?_
    have hPc := hP.sub (ws' := ([] : va_W)) [] rfl
    have hDc := hD.sub (ws' := ([] : va_W)) [] (by decide) rfl
    have hcc := (ct_X3_isWithin l G cI cL H.size p1 1 192000)
    refine ro_calli (va_runS (As := [.int p1, .int 1, .int 192000]) (rest := []) ⟨hx, hb, hml, hown, hts⟩ hcc (va_cwS 3 hts gX3_tickOf_X3_isWithin rfl rfl rfl (by decide +kernel) ⟨Nat.le_of_ble_eq_true rfl, Nat.le_of_ble_eq_true rfl⟩) ⟨pre_blind, pre_pass hK hN hPc hDc⟩ rfl rfl hl.1 rfl (lv_room (Nat.le_of_ble_eq_true rfl)) dX3_tickOf_10 ⟨Nat.le_of_ble_eq_true rfl, Nat.le_of_ble_eq_true rfl⟩) hP hD hS hA [] rfl (fun r10 H locs hw10 hP hS => ?_)
    try dsimp only at hw10
    refine lv_if_ne (tgt := 19) hx hb dX3_tickOf_13 (by decide) (fun c13 => ?_) (fun c13 => ?_)
    · have k13 : (r10.toInt : Int) ≠ 0 := i_ne rfl (show ((0 : Int32)).toInt = 0 by decide) c13
      refine lv_lload_n hx hb dX3_tickOf_19 rfl (lv_at hl 1 rfl) ?_
      refine lv_aload_n hx hb dX3_tickOf_20 rfl (lv_at hl 0 rfl) ?_
      refine lv_ldc (v := 1000000) hx hb hown (hts (.constant RX3 35 1000000) (by decide +kernel)) dX3_tickOf_21 ?_
      refine lv_iload_n hx hb dX3_tickOf_23 rfl (lv_at hl 2 rfl) ?_
      have hPc := hP.sub (ws' := [(qx, .inr (3, [.ref qm, .ref qh, .ref qt])), (qm, .inr (1, [.ref qm1, .ref qm2, .ref qm3, .ref qm4, .ref qm5, .int zm])), (qm1, .inl (cI, 40, .inl kt)), (qm2, .inl (cI, 40, .inl ks)), (qm3, .inl (cI, 40, .inl kf)), (qm4, .inl (cI, 40, .inl kl)), (qm5, .inl (cL, 40, .inr (.inl ku))), (qh, .inr (0, [.ref qh1, .ref qh2, .int zh])), (qh1, .inl (cI, 20, .inl gt)), (qh2, .inl (cI, 20, .inl gu)), (qt, .inr (2, [.ref qt1, .int zt])), (qt1, .inl (cL, 40, .inr (.inl kp)))]) [0, 1, 2, 3, 4, 5, 6, 7, 8, 9, 10, 11] rfl
      have hDc := hD.sub (ws' := [(qx, .inr (3, [.ref qm, .ref qh, .ref qt])), (qm, .inr (1, [.ref qm1, .ref qm2, .ref qm3, .ref qm4, .ref qm5, .int zm])), (qm1, .inl (cI, 40, .inl kt)), (qm2, .inl (cI, 40, .inl ks)), (qm3, .inl (cI, 40, .inl kf)), (qm4, .inl (cI, 40, .inl kl)), (qm5, .inl (cL, 40, .inr (.inl ku))), (qh, .inr (0, [.ref qh1, .ref qh2, .int zh])), (qh1, .inl (cI, 20, .inl gt)), (qh2, .inl (cI, 20, .inl gu)), (qt, .inr (2, [.ref qt1, .int zt])), (qt1, .inl (cL, 40, .inr (.inl kp)))]) [0, 1, 2, 3, 4, 5, 6, 7, 8, 9, 10, 11] (by decide) rfl
      have hcc := (ct_X3_framesAt l G cI cL H.size qx qm qm1 qm2 qm3 qm4 qm5 zm kt ks kf kl ku qh qh1 qh2 zh gt gu qt qt1 zt kp 1000000 p1 nm hnm hOm hSr hU nh hnh hOh nt hnt hOt (by omega) (by omega))
      refine ro_calll (va_runV (As := [.int 1000000, .int p1]) (rest := [.long p0]) ⟨hx, hb, hml, hown, hts⟩ hcc (cwV 2 hts gX3_tickOf_X3_framesAt rfl rfl rfl (by decide +kernel) ⟨Nat.le_of_ble_eq_true rfl, Nat.le_of_ble_eq_true rfl⟩) ⟨pre_blind, va_recv hK hPc (ci := 3) (q0 := 0) rfl rfl, pre_pass hK hN hPc hDc⟩ rfl rfl hl.1 rfl (lv_room (Nat.le_of_ble_eq_true rfl)) dX3_tickOf_24 ⟨Nat.le_of_ble_eq_true rfl, Nat.le_of_ble_eq_true rfl⟩) hP hD hS hA [0, 1, 2, 3, 4, 5, 6, 7, 8, 9, 10, 11] rfl (fun r24 H locs hw24 hP hS => ?_)
      try dsimp only at hw24
      rw [show ((1000000 : Int32)).toInt.toNat = 1000000 by decide] at hw24
      have hB6 := hB 1000000 (by omega)
      have b24 := mul_bnd (show 0 ≤ Bg (paceF kt ks kf kl nm) gt gu nh 1000000 ∧ Bg (paceF kt ks kf kl nm) gt gu nh 1000000 ≤ 1020000000000 by omega) (show 0 ≤ p1.toInt ∧ p1.toInt ≤ 192000 by omega)
      have dl := div_lt_iff (a := Bg (paceF kt ks kf kl nm) gt gu nh 1000000 * p1.toInt) (b := 1000000) (c := p0.toInt) (by omega)
      refine W.lcmp hx hb dX3_tickOf_27 ?_
      refine lv_if_le (tgt := 33) hx hb dX3_tickOf_28 (by decide) (fun c28 => ?_) (fun c28 => ?_)
      · have k28 : (p0.toInt : Int) ≤ r24.toInt := l_le rfl rfl ((lg_cmp_le _ _).mp c28)
        have nn : p0.toInt * 1000000 ≤ Bg (paceF kt ks kf kl nm) gt gu nh 1000000 * p1.toInt := by rcases Int.lt_or_le (Bg (paceF kt ks kf kl nm) gt gu nh 1000000 * p1.toInt) (p0.toInt * 1000000) with q | q; have := dl.mpr q; omega; exact q
        refine lv_lload_n hx hb dX3_tickOf_33 rfl (lv_at hl 1 rfl) ?_
        refine lv_ldc2 (v := 1000000) hx hb hown (hts (.constantLong RX3 87 1000000) (by decide +kernel)) dX3_tickOf_34 ?_
        refine lv_lmul hx hb dX3_tickOf_37 ?_
        refine lv_topl (fun x37 ex37 => ?_)
        have tx37 : x37.toInt = p0.toInt * 1000000 := by rw [ex37]; exact tl_mul rfl (show ((1000000 : Int64)).toInt = 1000000 by decide) (by omega) (by omega)
        refine lv_iload_n hx hb dX3_tickOf_38 rfl (lv_at hl 2 rfl) ?_
        refine lv_i2l hx hb dX3_tickOf_39 rfl ?_
        refine lv_topl (fun x39 ex39 => ?_)
        have tx39 : x39.toInt = p1.toInt := by rw [ex39]; exact tc_i2l rfl
        refine lv_ladd hx hb dX3_tickOf_40 ?_
        refine lv_topl (fun x40 ex40 => ?_)
        have tx40 : x40.toInt = x37.toInt + p1.toInt := by rw [ex40]; exact tl_add rfl tx39 (by omega) (by omega)
        refine lv_lconst (v := 1) hx hb dX3_tickOf_41 (by decide) ?_
        refine lv_lsub hx hb dX3_tickOf_42 ?_
        refine lv_topl (fun x42 ex42 => ?_)
        have tx42 : x42.toInt = x40.toInt - 1 := by rw [ex42]; exact tl_sub rfl (show ((1 : Int64)).toInt = 1 by decide) (by omega) (by omega)
        refine lv_iload_n hx hb dX3_tickOf_43 rfl (lv_at hl 2 rfl) ?_
        refine lv_i2l hx hb dX3_tickOf_44 rfl ?_
        refine lv_topl (fun x44 ex44 => ?_)
        have tx44 : x44.toInt = p1.toInt := by rw [ex44]; exact tc_i2l rfl
        refine lv_ldiv hx hb dX3_tickOf_45 (l_ne0 tx44 (by omega)) ?_
        refine lv_topl (fun x45 ex45 => ?_)
        have tx45 : x45.toInt = x42.toInt / p1.toInt := by rw [ex45]; exact tl_div rfl tx44 (by omega) (by omega)
        refine lv_lstore (lv' := [(4, .long x45), (0, .ref qx), (1, .long p0), (3, .int p1)]) hx hb dX3_tickOf_46  hl (by decide) rfl (fun ls hl => ?_)
        refine lv_aload_n hx hb dX3_tickOf_48 rfl (lv_at hl 1 rfl) ?_
        refine lv_lload hx hb dX3_tickOf_49 (lv_at hl 0 rfl) ?_
        have hPc := hP.sub (ws' := [(qx, .inr (3, [.ref qm, .ref qh, .ref qt])), (qm, .inr (1, [.ref qm1, .ref qm2, .ref qm3, .ref qm4, .ref qm5, .int zm])), (qm1, .inl (cI, 40, .inl kt)), (qm2, .inl (cI, 40, .inl ks)), (qm3, .inl (cI, 40, .inl kf)), (qm4, .inl (cI, 40, .inl kl)), (qm5, .inl (cL, 40, .inr (.inl ku))), (qh, .inr (0, [.ref qh1, .ref qh2, .int zh])), (qh1, .inl (cI, 20, .inl gt)), (qh2, .inl (cI, 20, .inl gu)), (qt, .inr (2, [.ref qt1, .int zt])), (qt1, .inl (cL, 40, .inr (.inl kp)))]) [0, 1, 2, 3, 4, 5, 6, 7, 8, 9, 10, 11] rfl
        have hDc := hD.sub (ws' := [(qx, .inr (3, [.ref qm, .ref qh, .ref qt])), (qm, .inr (1, [.ref qm1, .ref qm2, .ref qm3, .ref qm4, .ref qm5, .int zm])), (qm1, .inl (cI, 40, .inl kt)), (qm2, .inl (cI, 40, .inl ks)), (qm3, .inl (cI, 40, .inl kf)), (qm4, .inl (cI, 40, .inl kl)), (qm5, .inl (cL, 40, .inr (.inl ku))), (qh, .inr (0, [.ref qh1, .ref qh2, .int zh])), (qh1, .inl (cI, 20, .inl gt)), (qh2, .inl (cI, 20, .inl gu)), (qt, .inr (2, [.ref qt1, .int zt])), (qt1, .inl (cL, 40, .inr (.inl kp)))]) [0, 1, 2, 3, 4, 5, 6, 7, 8, 9, 10, 11] (by decide) rfl
        have hcc := (ct_X3_firstBeginningFrom l G cI cL H.size qx qm qm1 qm2 qm3 qm4 qm5 zm kt ks kf kl ku qh qh1 qh2 zh gt gu qt qt1 zt kp x45 nm hnm hOm hSr hU nh hnh hOh nt hnt hOt)
        refine ro_calli (va_runV (As := [.long x45]) (rest := []) ⟨hx, hb, hml, hown, hts⟩ hcc (cwV 1 hts gX3_tickOf_X3_firstBeginningFrom rfl rfl rfl (by decide +kernel) ⟨Nat.le_of_ble_eq_true rfl, Nat.le_of_ble_eq_true rfl⟩) ⟨pre_blind, va_recv hK hPc (ci := 3) (q0 := 0) rfl rfl, pre_pass hK hN hPc hDc⟩ rfl rfl hl.1 rfl (lv_room (Nat.le_of_ble_eq_true rfl)) dX3_tickOf_51 ⟨Nat.le_of_ble_eq_true rfl, Nat.le_of_ble_eq_true rfl⟩) hP hD hS hA [0, 1, 2, 3, 4, 5, 6, 7, 8, 9, 10, 11] rfl (fun r51 H locs hw51 hP hS => ?_)
        try dsimp only at hw51
        have cl := fun b => ceil_le (F := p0.toInt * 1000000) (k := p1.toInt) (b := b) (by omega)
        have e45 : x45.toInt = (p0.toInt * 1000000 + p1.toInt - 1) / p1.toInt := by rw [tx45, show x42.toInt = p0.toInt * 1000000 + p1.toInt - 1 by omega]
        have hr6 : r51.toInt ≤ 1000000 := by rcases Int.lt_or_le 1000000 r51.toInt with q | q; have h1 := hw51.2.2.1 1000000 (by omega); have h2 := (cl (Bg (paceF kt ks kf kl nm) gt gu nh 1000000)).mpr nn; omega; exact q
        exact W.iret (v := r51) hx hb hr (fun t ht hW => ⟨⟨r51, (), rfl, (by (try dsimp only); exact (Or.inr ⟨by omega, Or.inr ⟨by omega, hr6, (cl _).mp (by rw [← e45]; exact hw51.2.2.2 hr6), fun x hx => by rcases Int.lt_or_le (Bg (paceF kt ks kf kl nm) gt gu nh x * p1.toInt) (p0.toInt * 1000000) with q | q; exact q; have h1 := (cl _).mpr q; have h2 := hw51.2.2.1 x (by omega); omega⟩⟩)), by rw [ht]; exact hP, hD⟩, hS.F ht⟩) hS.2.2 dX3_tickOf_54
      · have k28 : (r24.toInt : Int) < p0.toInt := l_nle rfl rfl (fun h9 => c28 ((lg_cmp_le _ _).mpr h9))
        have nn : Bg (paceF kt ks kf kl nm) gt gu nh 1000000 * p1.toInt < p0.toInt * 1000000 := dl.mp (by omega)
        have na : ∀ x : Nat, x ≤ 1000000 → Bg (paceF kt ks kf kl nm) gt gu nh x * p1.toInt < p0.toInt * 1000000 := fun x hx => by have := Int.mul_le_mul_of_nonneg_right (Bg_le (P := paceF kt ks kf kl nm) (pace_rng hOm) hOh hx) (show 0 ≤ p1.toInt by omega); omega
        refine lv_iconst (v := (-1)) hx hb dX3_tickOf_31 (by decide) ?_
        exact W.iret (v := (-1)) hx hb hr (fun t ht hW => ⟨⟨(-1), (), rfl, (by (try dsimp only); exact (Or.inr ⟨by omega, Or.inl ⟨by omega, na⟩⟩)), by rw [ht]; exact hP, hD⟩, hS.F ht⟩) hS.2.2 dX3_tickOf_32
    · have k13 : (r10.toInt : Int) = 0 := i_eq rfl (show ((0 : Int32)).toInt = 0 by decide) c13
      refine lv_bipush (v := (-2)) hx hb dX3_tickOf_16 (by decide) ?_
      exact W.iret (v := (-2)) hx hb hr (fun t ht hW => ⟨⟨(-2), (), rfl, (by (try dsimp only); exact (Or.inl ⟨by omega, by omega⟩)), by rw [ht]; exact hP, hD⟩, hS.F ht⟩) hS.2.2 dX3_tickOf_18

set_option maxHeartbeats 1000000 in
set_option maxRecDepth 100000 in
theorem ct_X3_lastBegun (l : Launch) (G : va_G) (cI cL : ClassId) (sz : Nat) (qx : Nat) (qm : Nat) (qm1 : Nat) (qm2 : Nat) (qm3 : Nat) (qm4 : Nat) (qm5 : Nat) (zm : Int32) (kt : Nat → Int32) (ks : Nat → Int32) (kf : Nat → Int32) (kl : Nat → Int32) (ku : Nat → Int64) (qh : Nat) (qh1 : Nat) (qh2 : Nat) (zh : Int32) (gt : Nat → Int32) (gu : Nat → Int32) (qt : Nat) (qt1 : Nat) (zt : Int32) (kp : Nat → Int64) (p0 : Int64) (nm : Nat) (hnm : zm.toInt = nm) (hOm : okM nm kt ks kf kl) (hSr : srt nm kt) (hU : okU nm kt ks kf kl ku) (nh : Nat) (hnh : zh.toInt = nh) (hOh : okH nh gt gu) (nt : Nat) (hnt : zt.toInt = nt) (hOt : okT nt kp) (hp0 : 0 ≤ p0.toInt) : Met l yX3_lastBegun wsX3_lastBegun ({ frames := 6, cells := 0, slots := 0, locals := 155 }) (va_Pc [.ref qx, .long p0] (pre0 G cI cL [(qx, .inr (3, [.ref qm, .ref qh, .ref qt])), (qm, .inr (1, [.ref qm1, .ref qm2, .ref qm3, .ref qm4, .ref qm5, .int zm])), (qm1, .inl (cI, 40, .inl kt)), (qm2, .inl (cI, 40, .inl ks)), (qm3, .inl (cI, 40, .inl kf)), (qm4, .inl (cI, 40, .inl kl)), (qm5, .inl (cL, 40, .inr (.inl ku))), (qh, .inr (0, [.ref qh1, .ref qh2, .int zh])), (qh1, .inl (cI, 20, .inl gt)), (qh2, .inl (cI, 20, .inl gu)), (qt, .inr (2, [.ref qt1, .int zt])), (qt1, .inl (cL, 40, .inr (.inl kp)))] sz)) (va_Qi (fun (r : Int32) (u : Unit) => lastB (Bg (paceF kt ks kf kl nm) gt gu nh) p0.toInt r.toInt) (fun (u : Unit) t => va_P G vwCl [(qx, .inr (3, [.ref qm, .ref qh, .ref qt])), (qm, .inr (1, [.ref qm1, .ref qm2, .ref qm3, .ref qm4, .ref qm5, .int zm])), (qm1, .inl (cI, 40, .inl kt)), (qm2, .inl (cI, 40, .inl ks)), (qm3, .inl (cI, 40, .inl kf)), (qm4, .inl (cI, 40, .inl kl)), (qm5, .inl (cL, 40, .inr (.inl ku))), (qh, .inr (0, [.ref qh1, .ref qh2, .int zh])), (qh1, .inl (cI, 20, .inl gt)), (qh2, .inl (cI, 20, .inl gu)), (qt, .inr (2, [.ref qt1, .int zt])), (qt1, .inl (cL, 40, .inr (.inl kp)))] t.heap ∧ va_D (va_A [(qx, .inr (3, [.ref qm, .ref qh, .ref qt])), (qm, .inr (1, [.ref qm1, .ref qm2, .ref qm3, .ref qm4, .ref qm5, .int zm])), (qm1, .inl (cI, 40, .inl kt)), (qm2, .inl (cI, 40, .inl ks)), (qm3, .inl (cI, 40, .inl kf)), (qm4, .inl (cI, 40, .inl kl)), (qm5, .inl (cL, 40, .inr (.inl ku))), (qh, .inr (0, [.ref qh1, .ref qh2, .int zh])), (qh1, .inl (cI, 20, .inl gt)), (qh2, .inl (cI, 20, .inl gu)), (qt, .inr (2, [.ref qt1, .int zt])), (qt1, .inl (cL, 40, .inr (.inl kp)))] sz) [(qx, .inr (3, [.ref qm, .ref qh, .ref qt])), (qm, .inr (1, [.ref qm1, .ref qm2, .ref qm3, .ref qm4, .ref qm5, .int zm])), (qm1, .inl (cI, 40, .inl kt)), (qm2, .inl (cI, 40, .inl ks)), (qm3, .inl (cI, 40, .inl kf)), (qm4, .inl (cI, 40, .inl kl)), (qm5, .inl (cL, 40, .inr (.inl ku))), (qh, .inr (0, [.ref qh1, .ref qh2, .int zh])), (qh1, .inl (cI, 20, .inl gt)), (qh2, .inl (cI, 20, .inl gu)), (qt, .inr (2, [.ref qt1, .int zt])), (qt1, .inl (cL, 40, .inr (.inl kp)))]) (va_A [(qx, .inr (3, [.ref qm, .ref qh, .ref qt])), (qm, .inr (1, [.ref qm1, .ref qm2, .ref qm3, .ref qm4, .ref qm5, .int zm])), (qm1, .inl (cI, 40, .inl kt)), (qm2, .inl (cI, 40, .inl ks)), (qm3, .inl (cI, 40, .inl kf)), (qm4, .inl (cI, 40, .inl kl)), (qm5, .inl (cL, 40, .inr (.inl ku))), (qh, .inr (0, [.ref qh1, .ref qh2, .int zh])), (qh1, .inl (cI, 20, .inl gt)), (qh2, .inl (cI, 20, .inl gu)), (qt, .inr (2, [.ref qt1, .int zt])), (qt1, .inl (cL, 40, .inr (.inl kp)))] sz)) 0 0 (va_A [(qx, .inr (3, [.ref qm, .ref qh, .ref qt])), (qm, .inr (1, [.ref qm1, .ref qm2, .ref qm3, .ref qm4, .ref qm5, .int zm])), (qm1, .inl (cI, 40, .inl kt)), (qm2, .inl (cI, 40, .inl ks)), (qm3, .inl (cI, 40, .inl kf)), (qm4, .inl (cI, 40, .inl kl)), (qm5, .inl (cL, 40, .inr (.inl ku))), (qh, .inr (0, [.ref qh1, .ref qh2, .int zh])), (qh1, .inl (cI, 20, .inl gt)), (qh2, .inl (cI, 20, .inl gu)), (qt, .inr (2, [.ref qt1, .int zt])), (qt1, .inl (cL, 40, .inr (.inl kp)))] sz) := by
  refine Met.ofW (cc := cX3_lastBegun) (maxL := 4) (ret := (some .int)) (by decide) rfl ?_
  intro p e s m args below meth c s₁ B hml hv
  obtain ⟨rfl, hsz, hP, hK, hD0, hN⟩ := hv
  have hx := B.exec
  have hb := B.bytes
  have hr := B.returns
  have hts := atoms_spec (ws := wsX3_lastBegun) B.pre
  have hown : s.vm.findClass RX3 = some m.cls := findClass_of_methodNamed B.named
  have hlocks := B.notSynchronized
  subst hsz
  have hD := hD0.self (sz := s.heap.size)
  generalize hAe : va_A [(qx, .inr (3, [.ref qm, .ref qh, .ref qt])), (qm, .inr (1, [.ref qm1, .ref qm2, .ref qm3, .ref qm4, .ref qm5, .int zm])), (qm1, .inl (cI, 40, .inl kt)), (qm2, .inl (cI, 40, .inl ks)), (qm3, .inl (cI, 40, .inl kf)), (qm4, .inl (cI, 40, .inl kl)), (qm5, .inl (cL, 40, .inr (.inl ku))), (qh, .inr (0, [.ref qh1, .ref qh2, .int zh])), (qh1, .inl (cI, 20, .inl gt)), (qh2, .inl (cI, 20, .inl gu)), (qt, .inr (2, [.ref qt1, .int zt])), (qt1, .inl (cL, 40, .inr (.inl kp)))] s.heap.size = A at hD ⊢
  have hA : ∀ q : Nat, s.heap.size ≤ q → A q := fun q h => by rw [← hAe]; exact Or.inr h
  have hP : va_P G vwCl [(qx, .inr (3, [.ref qm, .ref qh, .ref qt])), (qm, .inr (1, [.ref qm1, .ref qm2, .ref qm3, .ref qm4, .ref qm5, .int zm])), (qm1, .inl (cI, 40, .inl kt)), (qm2, .inl (cI, 40, .inl ks)), (qm3, .inl (cI, 40, .inl kf)), (qm4, .inl (cI, 40, .inl kl)), (qm5, .inl (cL, 40, .inr (.inl ku))), (qh, .inr (0, [.ref qh1, .ref qh2, .int zh])), (qh1, .inl (cI, 20, .inl gt)), (qh2, .inl (cI, 20, .inl gu)), (qt, .inr (2, [.ref qt1, .int zt])), (qt1, .inl (cL, 40, .inr (.inl kp)))] s.heap := hP
  have hl := lv_entry ([.ref qx, .long p0]) (n := 4) (Nat.le_of_ble_eq_true rfl)
  rw [lg_entry_eq]
  generalize (lg_sl ([.ref qx, .long p0]) ++ List.replicate (4 - (lg_sl ([.ref qx, .long p0])).length) Slot.unset).toArray = ls at hl ⊢
  have hl : lv_has ls 4 [(0, .ref qx), (1, .long p0)] := hl
  have zim1 : ((-1 : Int32)).toInt = -1 := by decide
  have zi1 : ((1 : Int32)).toInt = 1 := by decide
  have zi1000000 : ((1000000 : Int32)).toInt = 1000000 := by decide
  have zl1 : ((1 : Int64)).toInt = 1 := by decide
  refine w_h (A := A) hP (fun H locs hP hS => ?_)
  have hn40 := hOm.1
  have hrg := hOm.2.1
  have zz0 : ((0 : Int32)).toInt = 0 := by decide
  have hB := fun (x : Nat) (hx : x ≤ 1000000) => Bg_rng (P := paceF kt ks kf kl nm) (pace_rng hOm) hOh hx
  have hB6 := hB 1000000 (by omega)
  refine lv_lload_n hx hb dX3_lastBegun_0 rfl (lv_at hl 1 rfl) ?_
  refine lv_aload_n hx hb dX3_lastBegun_1 rfl (lv_at hl 0 rfl) ?_
  refine lv_ldc (v := 1000000) hx hb hown (hts (.constant RX3 35 1000000) (by decide +kernel)) dX3_lastBegun_2 ?_
  have hPc := hP.sub (ws' := [(qx, .inr (3, [.ref qm, .ref qh, .ref qt])), (qm, .inr (1, [.ref qm1, .ref qm2, .ref qm3, .ref qm4, .ref qm5, .int zm])), (qm1, .inl (cI, 40, .inl kt)), (qm2, .inl (cI, 40, .inl ks)), (qm3, .inl (cI, 40, .inl kf)), (qm4, .inl (cI, 40, .inl kl)), (qm5, .inl (cL, 40, .inr (.inl ku))), (qh, .inr (0, [.ref qh1, .ref qh2, .int zh])), (qh1, .inl (cI, 20, .inl gt)), (qh2, .inl (cI, 20, .inl gu)), (qt, .inr (2, [.ref qt1, .int zt])), (qt1, .inl (cL, 40, .inr (.inl kp)))]) [0, 1, 2, 3, 4, 5, 6, 7, 8, 9, 10, 11] rfl
  have hDc := hD.sub (ws' := [(qx, .inr (3, [.ref qm, .ref qh, .ref qt])), (qm, .inr (1, [.ref qm1, .ref qm2, .ref qm3, .ref qm4, .ref qm5, .int zm])), (qm1, .inl (cI, 40, .inl kt)), (qm2, .inl (cI, 40, .inl ks)), (qm3, .inl (cI, 40, .inl kf)), (qm4, .inl (cI, 40, .inl kl)), (qm5, .inl (cL, 40, .inr (.inl ku))), (qh, .inr (0, [.ref qh1, .ref qh2, .int zh])), (qh1, .inl (cI, 20, .inl gt)), (qh2, .inl (cI, 20, .inl gu)), (qt, .inr (2, [.ref qt1, .int zt])), (qt1, .inl (cL, 40, .inr (.inl kp)))]) [0, 1, 2, 3, 4, 5, 6, 7, 8, 9, 10, 11] (by decide) rfl
  have hcc := (ct_X3_beginOf l G cI cL H.size qx qm qm1 qm2 qm3 qm4 qm5 zm kt ks kf kl ku qh qh1 qh2 zh gt gu qt qt1 zt kp 1000000 nm hnm hOm hSr hU nh hnh hOh nt hnt hOt (by omega))
  refine ro_calll (va_runV (As := [.int 1000000]) (rest := [.long p0]) ⟨hx, hb, hml, hown, hts⟩ hcc (cwV 1 hts gX3_lastBegun_X3_beginOf rfl rfl rfl (by decide +kernel) ⟨Nat.le_of_ble_eq_true rfl, Nat.le_of_ble_eq_true rfl⟩) ⟨pre_blind, va_recv hK hPc (ci := 3) (q0 := 0) rfl rfl, pre_pass hK hN hPc hDc⟩ rfl rfl hl.1 rfl (lv_room (Nat.le_of_ble_eq_true rfl)) dX3_lastBegun_4 ⟨Nat.le_of_ble_eq_true rfl, Nat.le_of_ble_eq_true rfl⟩) hP hD hS hA [0, 1, 2, 3, 4, 5, 6, 7, 8, 9, 10, 11] rfl (fun r4 H locs hw4 hP hS => ?_)
  try dsimp only at hw4
  rw [show ((1000000 : Int32)).toInt.toNat = 1000000 by decide] at hw4
  refine W.lcmp hx hb dX3_lastBegun_7 ?_
  refine lv_if_lt (tgt := 14) hx hb dX3_lastBegun_8 (by decide) (fun c8 => ?_) (fun c8 => ?_)
  · have k8 : (p0.toInt : Int) < r4.toInt := l_lt rfl rfl ((lg_cmp_lt _ _).mp c8)
    refine lv_aload_n hx hb dX3_lastBegun_14 rfl (lv_at hl 0 rfl) ?_
    refine lv_lload_n hx hb dX3_lastBegun_15 rfl (lv_at hl 1 rfl) ?_
    refine lv_lconst (v := 1) hx hb dX3_lastBegun_16 (by decide) ?_
    refine lv_ladd hx hb dX3_lastBegun_17 ?_
    refine lv_topl (fun x17 ex17 => ?_)
    have tx17 : x17.toInt = p0.toInt + 1 := by rw [ex17]; exact tl_add rfl (show ((1 : Int64)).toInt = 1 by decide) (by omega) (by omega)
    have hPc := hP.sub (ws' := [(qx, .inr (3, [.ref qm, .ref qh, .ref qt])), (qm, .inr (1, [.ref qm1, .ref qm2, .ref qm3, .ref qm4, .ref qm5, .int zm])), (qm1, .inl (cI, 40, .inl kt)), (qm2, .inl (cI, 40, .inl ks)), (qm3, .inl (cI, 40, .inl kf)), (qm4, .inl (cI, 40, .inl kl)), (qm5, .inl (cL, 40, .inr (.inl ku))), (qh, .inr (0, [.ref qh1, .ref qh2, .int zh])), (qh1, .inl (cI, 20, .inl gt)), (qh2, .inl (cI, 20, .inl gu)), (qt, .inr (2, [.ref qt1, .int zt])), (qt1, .inl (cL, 40, .inr (.inl kp)))]) [0, 1, 2, 3, 4, 5, 6, 7, 8, 9, 10, 11] rfl
    have hDc := hD.sub (ws' := [(qx, .inr (3, [.ref qm, .ref qh, .ref qt])), (qm, .inr (1, [.ref qm1, .ref qm2, .ref qm3, .ref qm4, .ref qm5, .int zm])), (qm1, .inl (cI, 40, .inl kt)), (qm2, .inl (cI, 40, .inl ks)), (qm3, .inl (cI, 40, .inl kf)), (qm4, .inl (cI, 40, .inl kl)), (qm5, .inl (cL, 40, .inr (.inl ku))), (qh, .inr (0, [.ref qh1, .ref qh2, .int zh])), (qh1, .inl (cI, 20, .inl gt)), (qh2, .inl (cI, 20, .inl gu)), (qt, .inr (2, [.ref qt1, .int zt])), (qt1, .inl (cL, 40, .inr (.inl kp)))]) [0, 1, 2, 3, 4, 5, 6, 7, 8, 9, 10, 11] (by decide) rfl
    have hcc := (ct_X3_firstBeginningFrom l G cI cL H.size qx qm qm1 qm2 qm3 qm4 qm5 zm kt ks kf kl ku qh qh1 qh2 zh gt gu qt qt1 zt kp x17 nm hnm hOm hSr hU nh hnh hOh nt hnt hOt)
    refine ro_calli (va_runV (As := [.long x17]) (rest := []) ⟨hx, hb, hml, hown, hts⟩ hcc (cwV 1 hts gX3_lastBegun_X3_firstBeginningFrom rfl rfl rfl (by decide +kernel) ⟨Nat.le_of_ble_eq_true rfl, Nat.le_of_ble_eq_true rfl⟩) ⟨pre_blind, va_recv hK hPc (ci := 3) (q0 := 0) rfl rfl, pre_pass hK hN hPc hDc⟩ rfl rfl hl.1 rfl (lv_room (Nat.le_of_ble_eq_true rfl)) dX3_lastBegun_18 ⟨Nat.le_of_ble_eq_true rfl, Nat.le_of_ble_eq_true rfl⟩) hP hD hS hA [0, 1, 2, 3, 4, 5, 6, 7, 8, 9, 10, 11] rfl (fun r18 H locs hw18 hP hS => ?_)
    try dsimp only at hw18
    refine lv_istore_n (lv' := [(3, .int r18), (0, .ref qx), (1, .long p0)]) hx hb dX3_lastBegun_21 rfl hl (by decide) rfl (fun ls hl => ?_)
    have hb2 : r18.toInt ≤ 1000000 := by rcases Int.lt_or_le 1000000 r18.toInt with q | q; have := hw18.2.2.1 1000000 (by omega); omega; exact q
    have hb3 := hw18.2.2.2 hb2
    refine lv_iload_n hx hb dX3_lastBegun_22 rfl (lv_at hl 0 rfl) ?_
    refine lv_if_ne (tgt := 30) hx hb dX3_lastBegun_23 (by decide) (fun c23 => ?_) (fun c23 => ?_)
    · have k23 : (r18.toInt : Int) ≠ 0 := i_ne rfl (show ((0 : Int32)).toInt = 0 by decide) c23
      refine lv_iload_n hx hb dX3_lastBegun_30 rfl (lv_at hl 0 rfl) ?_
      refine lv_iconst (v := 1) hx hb dX3_lastBegun_31 (by decide) ?_
      refine lv_isub hx hb dX3_lastBegun_32 ?_
      refine lv_topi (fun x32 ex32 => ?_)
      have tx32 : x32.toInt = r18.toInt - 1 := by rw [ex32]; exact ti_sub rfl (show ((1 : Int32)).toInt = 1 by decide) (by omega) (by omega)
      exact W.iret (v := x32) hx hb hr (fun t ht hW => ⟨⟨x32, (), rfl, (by (try dsimp only); exact (by first | exact Or.inl ⟨by omega, by rw [show r18.toInt.toNat = 0 by omega] at hb3; omega⟩ | exact Or.inr (Or.inl ⟨by omega, by omega, by have := hw18.2.2.1 x32.toInt.toNat (by omega); omega, by rw [show x32.toInt.toNat + 1 = r18.toInt.toNat by omega]; omega⟩))), by rw [ht]; exact hP, hD⟩, hS.F ht⟩) hS.2.2 dX3_lastBegun_33
    · have k23 : (r18.toInt : Int) = 0 := i_eq rfl (show ((0 : Int32)).toInt = 0 by decide) c23
      refine lv_iconst (v := (-1)) hx hb dX3_lastBegun_26 (by decide) ?_
      refine lv_goto (tgt := 33) hx hb dX3_lastBegun_27 (by decide) ?_
      exact W.iret (v := (-1)) hx hb hr (fun t ht hW => ⟨⟨(-1), (), rfl, (by (try dsimp only); exact (by first | exact Or.inl ⟨by omega, by rw [show r18.toInt.toNat = 0 by omega] at hb3; omega⟩ | exact Or.inr (Or.inl ⟨by omega, by omega, by have := hw18.2.2.1 x32.toInt.toNat (by omega); omega, by rw [show x32.toInt.toNat + 1 = r18.toInt.toNat by omega]; omega⟩))), by rw [ht]; exact hP, hD⟩, hS.F ht⟩) hS.2.2 dX3_lastBegun_33
  · have k8 : (r4.toInt : Int) ≤ p0.toInt := l_nlt rfl rfl (fun h9 => c8 ((lg_cmp_lt _ _).mpr h9))
    refine lv_ldc (v := 1000000) hx hb hown (hts (.constant RX3 35 1000000) (by decide +kernel)) dX3_lastBegun_11 ?_
    exact W.iret (v := 1000000) hx hb hr (fun t ht hW => ⟨⟨1000000, (), rfl, (by (try dsimp only); exact (Or.inr (Or.inr ⟨by omega, by omega⟩))), by rw [ht]; exact hP, hD⟩, hS.F ht⟩) hS.2.2 dX3_lastBegun_13

set_option maxHeartbeats 1000000 in
set_option maxRecDepth 100000 in
theorem ct_X3_firstBeginningFrom (l : Launch) (G : va_G) (cI cL : ClassId) (sz : Nat) (qx : Nat) (qm : Nat) (qm1 : Nat) (qm2 : Nat) (qm3 : Nat) (qm4 : Nat) (qm5 : Nat) (zm : Int32) (kt : Nat → Int32) (ks : Nat → Int32) (kf : Nat → Int32) (kl : Nat → Int32) (ku : Nat → Int64) (qh : Nat) (qh1 : Nat) (qh2 : Nat) (zh : Int32) (gt : Nat → Int32) (gu : Nat → Int32) (qt : Nat) (qt1 : Nat) (zt : Int32) (kp : Nat → Int64) (p0 : Int64) (nm : Nat) (hnm : zm.toInt = nm) (hOm : okM nm kt ks kf kl) (hSr : srt nm kt) (hU : okU nm kt ks kf kl ku) (nh : Nat) (hnh : zh.toInt = nh) (hOh : okH nh gt gu) (nt : Nat) (hnt : zt.toInt = nt) (hOt : okT nt kp) : Met l yX3_firstBeginningFrom wsX3_firstBeginningFrom ({ frames := 5, cells := 0, slots := 0, locals := 129 }) (va_Pc [.ref qx, .long p0] (pre0 G cI cL [(qx, .inr (3, [.ref qm, .ref qh, .ref qt])), (qm, .inr (1, [.ref qm1, .ref qm2, .ref qm3, .ref qm4, .ref qm5, .int zm])), (qm1, .inl (cI, 40, .inl kt)), (qm2, .inl (cI, 40, .inl ks)), (qm3, .inl (cI, 40, .inl kf)), (qm4, .inl (cI, 40, .inl kl)), (qm5, .inl (cL, 40, .inr (.inl ku))), (qh, .inr (0, [.ref qh1, .ref qh2, .int zh])), (qh1, .inl (cI, 20, .inl gt)), (qh2, .inl (cI, 20, .inl gu)), (qt, .inr (2, [.ref qt1, .int zt])), (qt1, .inl (cL, 40, .inr (.inl kp)))] sz)) (va_Qi (fun (r : Int32) (u : Unit) => 0 ≤ r.toInt ∧ r.toInt ≤ 1000001 ∧ (∀ x : Nat, (x : Int) < r.toInt → Bg (paceF kt ks kf kl nm) gt gu nh x < p0.toInt) ∧ (r.toInt ≤ 1000000 → p0.toInt ≤ Bg (paceF kt ks kf kl nm) gt gu nh r.toInt.toNat)) (fun (u : Unit) t => va_P G vwCl [(qx, .inr (3, [.ref qm, .ref qh, .ref qt])), (qm, .inr (1, [.ref qm1, .ref qm2, .ref qm3, .ref qm4, .ref qm5, .int zm])), (qm1, .inl (cI, 40, .inl kt)), (qm2, .inl (cI, 40, .inl ks)), (qm3, .inl (cI, 40, .inl kf)), (qm4, .inl (cI, 40, .inl kl)), (qm5, .inl (cL, 40, .inr (.inl ku))), (qh, .inr (0, [.ref qh1, .ref qh2, .int zh])), (qh1, .inl (cI, 20, .inl gt)), (qh2, .inl (cI, 20, .inl gu)), (qt, .inr (2, [.ref qt1, .int zt])), (qt1, .inl (cL, 40, .inr (.inl kp)))] t.heap ∧ va_D (va_A [(qx, .inr (3, [.ref qm, .ref qh, .ref qt])), (qm, .inr (1, [.ref qm1, .ref qm2, .ref qm3, .ref qm4, .ref qm5, .int zm])), (qm1, .inl (cI, 40, .inl kt)), (qm2, .inl (cI, 40, .inl ks)), (qm3, .inl (cI, 40, .inl kf)), (qm4, .inl (cI, 40, .inl kl)), (qm5, .inl (cL, 40, .inr (.inl ku))), (qh, .inr (0, [.ref qh1, .ref qh2, .int zh])), (qh1, .inl (cI, 20, .inl gt)), (qh2, .inl (cI, 20, .inl gu)), (qt, .inr (2, [.ref qt1, .int zt])), (qt1, .inl (cL, 40, .inr (.inl kp)))] sz) [(qx, .inr (3, [.ref qm, .ref qh, .ref qt])), (qm, .inr (1, [.ref qm1, .ref qm2, .ref qm3, .ref qm4, .ref qm5, .int zm])), (qm1, .inl (cI, 40, .inl kt)), (qm2, .inl (cI, 40, .inl ks)), (qm3, .inl (cI, 40, .inl kf)), (qm4, .inl (cI, 40, .inl kl)), (qm5, .inl (cL, 40, .inr (.inl ku))), (qh, .inr (0, [.ref qh1, .ref qh2, .int zh])), (qh1, .inl (cI, 20, .inl gt)), (qh2, .inl (cI, 20, .inl gu)), (qt, .inr (2, [.ref qt1, .int zt])), (qt1, .inl (cL, 40, .inr (.inl kp)))]) (va_A [(qx, .inr (3, [.ref qm, .ref qh, .ref qt])), (qm, .inr (1, [.ref qm1, .ref qm2, .ref qm3, .ref qm4, .ref qm5, .int zm])), (qm1, .inl (cI, 40, .inl kt)), (qm2, .inl (cI, 40, .inl ks)), (qm3, .inl (cI, 40, .inl kf)), (qm4, .inl (cI, 40, .inl kl)), (qm5, .inl (cL, 40, .inr (.inl ku))), (qh, .inr (0, [.ref qh1, .ref qh2, .int zh])), (qh1, .inl (cI, 20, .inl gt)), (qh2, .inl (cI, 20, .inl gu)), (qt, .inr (2, [.ref qt1, .int zt])), (qt1, .inl (cL, 40, .inr (.inl kp)))] sz)) 0 0 (va_A [(qx, .inr (3, [.ref qm, .ref qh, .ref qt])), (qm, .inr (1, [.ref qm1, .ref qm2, .ref qm3, .ref qm4, .ref qm5, .int zm])), (qm1, .inl (cI, 40, .inl kt)), (qm2, .inl (cI, 40, .inl ks)), (qm3, .inl (cI, 40, .inl kf)), (qm4, .inl (cI, 40, .inl kl)), (qm5, .inl (cL, 40, .inr (.inl ku))), (qh, .inr (0, [.ref qh1, .ref qh2, .int zh])), (qh1, .inl (cI, 20, .inl gt)), (qh2, .inl (cI, 20, .inl gu)), (qt, .inr (2, [.ref qt1, .int zt])), (qt1, .inl (cL, 40, .inr (.inl kp)))] sz) := by
  refine Met.ofW (cc := cX3_firstBeginningFrom) (maxL := 7) (ret := (some .int)) (by decide) rfl ?_
  intro p e s m args below meth c s₁ B hml hv
  obtain ⟨rfl, hsz, hP, hK, hD0, hN⟩ := hv
  have hx := B.exec
  have hb := B.bytes
  have hr := B.returns
  have hts := atoms_spec (ws := wsX3_firstBeginningFrom) B.pre
  have hown : s.vm.findClass RX3 = some m.cls := findClass_of_methodNamed B.named
  have hlocks := B.notSynchronized
  subst hsz
  have hD := hD0.self (sz := s.heap.size)
  generalize hAe : va_A [(qx, .inr (3, [.ref qm, .ref qh, .ref qt])), (qm, .inr (1, [.ref qm1, .ref qm2, .ref qm3, .ref qm4, .ref qm5, .int zm])), (qm1, .inl (cI, 40, .inl kt)), (qm2, .inl (cI, 40, .inl ks)), (qm3, .inl (cI, 40, .inl kf)), (qm4, .inl (cI, 40, .inl kl)), (qm5, .inl (cL, 40, .inr (.inl ku))), (qh, .inr (0, [.ref qh1, .ref qh2, .int zh])), (qh1, .inl (cI, 20, .inl gt)), (qh2, .inl (cI, 20, .inl gu)), (qt, .inr (2, [.ref qt1, .int zt])), (qt1, .inl (cL, 40, .inr (.inl kp)))] s.heap.size = A at hD ⊢
  have hA : ∀ q : Nat, s.heap.size ≤ q → A q := fun q h => by rw [← hAe]; exact Or.inr h
  have hP : va_P G vwCl [(qx, .inr (3, [.ref qm, .ref qh, .ref qt])), (qm, .inr (1, [.ref qm1, .ref qm2, .ref qm3, .ref qm4, .ref qm5, .int zm])), (qm1, .inl (cI, 40, .inl kt)), (qm2, .inl (cI, 40, .inl ks)), (qm3, .inl (cI, 40, .inl kf)), (qm4, .inl (cI, 40, .inl kl)), (qm5, .inl (cL, 40, .inr (.inl ku))), (qh, .inr (0, [.ref qh1, .ref qh2, .int zh])), (qh1, .inl (cI, 20, .inl gt)), (qh2, .inl (cI, 20, .inl gu)), (qt, .inr (2, [.ref qt1, .int zt])), (qt1, .inl (cL, 40, .inr (.inl kp)))] s.heap := hP
  have hl := lv_entry ([.ref qx, .long p0]) (n := 7) (Nat.le_of_ble_eq_true rfl)
  rw [lg_entry_eq]
  generalize (lg_sl ([.ref qx, .long p0]) ++ List.replicate (7 - (lg_sl ([.ref qx, .long p0])).length) Slot.unset).toArray = ls at hl ⊢
  have hl : lv_has ls 7 [(0, .ref qx), (1, .long p0)] := hl
  have zi0 : ((0 : Int32)).toInt = 0 := by decide
  have zi1 : ((1 : Int32)).toInt = 1 := by decide
  have zi2 : ((2 : Int32)).toInt = 2 := by decide
  have zi200 : ((200 : Int32)).toInt = 200 := by decide
  have zi1000001 : ((1000001 : Int32)).toInt = 1000001 := by decide
  refine w_h (A := A) hP (fun H locs hP hS => ?_)
  have hn40 := hOm.1
  have hrg := hOm.2.1
  have zz0 : ((0 : Int32)).toInt = 0 := by decide
  have hB := fun (x : Nat) (hx : x ≤ 1000000) => Bg_rng (P := paceF kt ks kf kl nm) (pace_rng hOm) hOh hx
  have zz9 : ((1000001 : Int32)).toInt - 0 = 1000001 := by decide
  refine lv_iconst (v := 0) hx hb dX3_firstBeginningFrom_0 (by decide) ?_
  refine lv_istore_n (lv' := [(3, .int 0), (0, .ref qx), (1, .long p0)]) hx hb dX3_firstBeginningFrom_1 rfl hl (by decide) rfl (fun ls hl => ?_)
  refine lv_ldc (v := 1000001) hx hb hown (hts (.constant RX3 123 1000001) (by decide +kernel)) dX3_firstBeginningFrom_2 ?_
  refine lv_istore (lv' := [(4, .int 1000001), (3, .int 0), (0, .ref qx), (1, .long p0)]) hx hb dX3_firstBeginningFrom_4  hl (by decide) rfl (fun ls hl => ?_)
  refine lv_iconst (v := 0) hx hb dX3_firstBeginningFrom_6 (by decide) ?_
  refine lv_istore (lv' := [(5, .int 0), (4, .int 1000001), (3, .int 0), (0, .ref qx), (1, .long p0)]) hx hb dX3_firstBeginningFrom_7  hl (by decide) rfl (fun ls hl => ?_)
  refine W_loop3 (fun (x3 : Int32) (x4 : Int32) (x5 : Int32) ls H locs => va_P G vwCl [(qx, .inr (3, [.ref qm, .ref qh, .ref qt])), (qm, .inr (1, [.ref qm1, .ref qm2, .ref qm3, .ref qm4, .ref qm5, .int zm])), (qm1, .inl (cI, 40, .inl kt)), (qm2, .inl (cI, 40, .inl ks)), (qm3, .inl (cI, 40, .inl kf)), (qm4, .inl (cI, 40, .inl kl)), (qm5, .inl (cL, 40, .inr (.inl ku))), (qh, .inr (0, [.ref qh1, .ref qh2, .int zh])), (qh1, .inl (cI, 20, .inl gt)), (qh2, .inl (cI, 20, .inl gu)), (qt, .inr (2, [.ref qt1, .int zt])), (qt1, .inl (cL, 40, .inr (.inl kp)))] H ∧ va_D A [(qx, .inr (3, [.ref qm, .ref qh, .ref qt])), (qm, .inr (1, [.ref qm1, .ref qm2, .ref qm3, .ref qm4, .ref qm5, .int zm])), (qm1, .inl (cI, 40, .inl kt)), (qm2, .inl (cI, 40, .inl ks)), (qm3, .inl (cI, 40, .inl kf)), (qm4, .inl (cI, 40, .inl kl)), (qm5, .inl (cL, 40, .inr (.inl ku))), (qh, .inr (0, [.ref qh1, .ref qh2, .int zh])), (qh1, .inl (cI, 20, .inl gt)), (qh2, .inl (cI, 20, .inl gu)), (qt, .inr (2, [.ref qt1, .int zt])), (qt1, .inl (cL, 40, .inr (.inl kp)))] ∧ va_S A s.heap H locs ∧ lv_has ls 7 [(0, .ref qx), (1, .long p0), (3, .int x3), (4, .int x4), (5, .int x5)] ∧ (0 ≤ x3.toInt ∧ x3.toInt ≤ x4.toInt ∧ x4.toInt ≤ 1000001) ∧ (0 ≤ x5.toInt ∧ x5.toInt ≤ 200) ∧ (∀ x : Nat, (x : Int) < x3.toInt → Bg (paceF kt ks kf kl nm) gt gu nh x < p0.toInt) ∧ (x4.toInt ≤ 1000000 → p0.toInt ≤ Bg (paceF kt ks kf kl nm) gt gu nh x4.toInt.toNat) ∧ ((x4.toInt - x3.toInt) * 2 ^ x5.toInt.toNat ≤ 2 ^ 180)) (fun (x3 : Int32) (x4 : Int32) (x5 : Int32) => (200 - x5.toInt).toNat) (fun x3 x4 x5 ls H locs hI ih9 => ?_) (0 : Int32) (1000001 : Int32) (0 : Int32) ls _ _ ⟨hP, hD, hS, lv_sub hl [3, 4, 2, 1, 0] rfl, (show 0 ≤ (0 : Int32).toInt ∧ (0 : Int32).toInt ≤ (1000001 : Int32).toInt ∧ (1000001 : Int32).toInt ≤ 1000001 from by omega), (show 0 ≤ (0 : Int32).toInt ∧ (0 : Int32).toInt ≤ 200 from by omega), (show ∀ x : Nat, (x : Int) < (0 : Int32).toInt → Bg (paceF kt ks kf kl nm) gt gu nh x < p0.toInt from fun x hx => by omega), (show (1000001 : Int32).toInt ≤ 1000000 → p0.toInt ≤ Bg (paceF kt ks kf kl nm) gt gu nh (1000001 : Int32).toInt.toNat from fun h => by omega), (show ((1000001 : Int32).toInt - (0 : Int32).toInt) * 2 ^ (0 : Int32).toInt.toNat ≤ 2 ^ 180 from by rw [zi0, show (0 : Int).toNat = 0 from rfl, Int.pow_zero, zz9]; decide)⟩
  obtain ⟨hP, hD, hS, hl, i1, i2, i3, i4, i5⟩ := hI
  refine lv_iload hx hb dX3_firstBeginningFrom_9 (lv_at hl 4 rfl) ?_
  refine lv_sipush (v := 200) hx hb dX3_firstBeginningFrom_11 (by decide) ?_
  refine lv_icmp_ge (tgt := 60) hx hb dX3_firstBeginningFrom_14 (by decide) (fun c14 => ?_) (fun c14 => ?_)
  · have k14 : (200 : Int) ≤ x5.toInt := i_le (show ((200 : Int32)).toInt = 200 by decide) rfl c14
    have pe := pow_end (k := x5.toInt.toNat) i5 (by omega)
    have el : x3.toInt = x4.toInt := by omega
    refine lv_iload_n hx hb dX3_firstBeginningFrom_60 rfl (lv_at hl 2 rfl) ?_
    exact W.iret (v := x3) hx hb hr (fun t ht hW => ⟨⟨x3, (), rfl, (by (try dsimp only); exact ⟨by omega, by omega, i3, fun h => by rw [el] at h ⊢; exact i4 h⟩), by rw [ht]; exact hP, hD⟩, hS.F ht⟩) hS.2.2 dX3_firstBeginningFrom_61
  · have k14 : (x5.toInt : Int) < 200 := i_nle (show ((200 : Int32)).toInt = 200 by decide) rfl c14
    refine lv_iload_n hx hb dX3_firstBeginningFrom_17 rfl (lv_at hl 2 rfl) ?_
    refine lv_iload hx hb dX3_firstBeginningFrom_18 (lv_at hl 3 rfl) ?_
    refine lv_icmp_ge (tgt := 60) hx hb dX3_firstBeginningFrom_20 (by decide) (fun c20 => ?_) (fun c20 => ?_)
    · have k20 : (x4.toInt : Int) ≤ x3.toInt := i_le rfl rfl c20
      have el : x3.toInt = x4.toInt := by omega
      refine lv_iload_n hx hb dX3_firstBeginningFrom_60 rfl (lv_at hl 2 rfl) ?_
      exact W.iret (v := x3) hx hb hr (fun t ht hW => ⟨⟨x3, (), rfl, (by (try dsimp only); exact ⟨by omega, by omega, i3, fun h => by rw [el] at h ⊢; exact i4 h⟩), by rw [ht]; exact hP, hD⟩, hS.F ht⟩) hS.2.2 dX3_firstBeginningFrom_61
    · have k20 : (x3.toInt : Int) < x4.toInt := i_nle rfl rfl c20
      refine lv_iload_n hx hb dX3_firstBeginningFrom_23 rfl (lv_at hl 2 rfl) ?_
      refine lv_iload hx hb dX3_firstBeginningFrom_24 (lv_at hl 3 rfl) ?_
      refine lv_iadd hx hb dX3_firstBeginningFrom_26 ?_
      refine lv_topi (fun x26 ex26 => ?_)
      have tx26 : x26.toInt = x3.toInt + x4.toInt := by rw [ex26]; exact ti_add rfl rfl (by omega) (by omega)
      refine lv_iconst (v := 2) hx hb dX3_firstBeginningFrom_27 (by decide) ?_
      refine lv_idiv hx hb dX3_firstBeginningFrom_28 (i_ne0 (show ((2 : Int32)).toInt = 2 by decide) (by omega)) ?_
      refine lv_topi (fun x28 ex28 => ?_)
      have tx28 : x28.toInt = x26.toInt / 2 := by rw [ex28]; exact ti_div rfl (show ((2 : Int32)).toInt = 2 by decide) (by omega) (by omega)
      refine lv_istore (lv' := [(6, .int x28), (0, .ref qx), (1, .long p0), (3, .int x3), (4, .int x4), (5, .int x5)]) hx hb dX3_firstBeginningFrom_29  hl (by decide) rfl (fun ls hl => ?_)
      refine lv_aload_n hx hb dX3_firstBeginningFrom_31 rfl (lv_at hl 1 rfl) ?_
      refine lv_iload hx hb dX3_firstBeginningFrom_32 (lv_at hl 0 rfl) ?_
      have hPc := hP.sub (ws' := [(qx, .inr (3, [.ref qm, .ref qh, .ref qt])), (qm, .inr (1, [.ref qm1, .ref qm2, .ref qm3, .ref qm4, .ref qm5, .int zm])), (qm1, .inl (cI, 40, .inl kt)), (qm2, .inl (cI, 40, .inl ks)), (qm3, .inl (cI, 40, .inl kf)), (qm4, .inl (cI, 40, .inl kl)), (qm5, .inl (cL, 40, .inr (.inl ku))), (qh, .inr (0, [.ref qh1, .ref qh2, .int zh])), (qh1, .inl (cI, 20, .inl gt)), (qh2, .inl (cI, 20, .inl gu)), (qt, .inr (2, [.ref qt1, .int zt])), (qt1, .inl (cL, 40, .inr (.inl kp)))]) [0, 1, 2, 3, 4, 5, 6, 7, 8, 9, 10, 11] rfl
      have hDc := hD.sub (ws' := [(qx, .inr (3, [.ref qm, .ref qh, .ref qt])), (qm, .inr (1, [.ref qm1, .ref qm2, .ref qm3, .ref qm4, .ref qm5, .int zm])), (qm1, .inl (cI, 40, .inl kt)), (qm2, .inl (cI, 40, .inl ks)), (qm3, .inl (cI, 40, .inl kf)), (qm4, .inl (cI, 40, .inl kl)), (qm5, .inl (cL, 40, .inr (.inl ku))), (qh, .inr (0, [.ref qh1, .ref qh2, .int zh])), (qh1, .inl (cI, 20, .inl gt)), (qh2, .inl (cI, 20, .inl gu)), (qt, .inr (2, [.ref qt1, .int zt])), (qt1, .inl (cL, 40, .inr (.inl kp)))]) [0, 1, 2, 3, 4, 5, 6, 7, 8, 9, 10, 11] (by decide) rfl
      have hcc := (ct_X3_beginOf l G cI cL H.size qx qm qm1 qm2 qm3 qm4 qm5 zm kt ks kf kl ku qh qh1 qh2 zh gt gu qt qt1 zt kp x28 nm hnm hOm hSr hU nh hnh hOh nt hnt hOt (by omega))
      refine ro_calll (va_runV (As := [.int x28]) (rest := []) ⟨hx, hb, hml, hown, hts⟩ hcc (cwV 1 hts gX3_firstBeginningFrom_X3_beginOf rfl rfl rfl (by decide +kernel) ⟨Nat.le_of_ble_eq_true rfl, Nat.le_of_ble_eq_true rfl⟩) ⟨pre_blind, va_recv hK hPc (ci := 3) (q0 := 0) rfl rfl, pre_pass hK hN hPc hDc⟩ rfl rfl hl.1 rfl (lv_room (Nat.le_of_ble_eq_true rfl)) dX3_firstBeginningFrom_34 ⟨Nat.le_of_ble_eq_true rfl, Nat.le_of_ble_eq_true rfl⟩) hP hD hS hA [0, 1, 2, 3, 4, 5, 6, 7, 8, 9, 10, 11] rfl (fun r34 H locs hw34 hP hS => ?_)
      try dsimp only at hw34
      refine lv_lload_n hx hb dX3_firstBeginningFrom_37 rfl (lv_at hl 2 rfl) ?_
      refine W.lcmp hx hb dX3_firstBeginningFrom_38 ?_
      refine lv_if_lt (tgt := 49) hx hb dX3_firstBeginningFrom_39 (by decide) (fun c39 => ?_) (fun c39 => ?_)
      · have k39 : (r34.toInt : Int) < p0.toInt := l_lt rfl rfl ((lg_cmp_lt _ _).mp c39)
        refine lv_iload hx hb dX3_firstBeginningFrom_49 (lv_at hl 0 rfl) ?_
        refine lv_iconst (v := 1) hx hb dX3_firstBeginningFrom_51 (by decide) ?_
        refine lv_iadd hx hb dX3_firstBeginningFrom_52 ?_
        refine lv_topi (fun x52 ex52 => ?_)
        have tx52 : x52.toInt = x28.toInt + 1 := by rw [ex52]; exact ti_add rfl (show ((1 : Int32)).toInt = 1 by decide) (by omega) (by omega)
        refine lv_istore_n (lv' := [(3, .int x52), (6, .int x28), (0, .ref qx), (1, .long p0), (4, .int x4), (5, .int x5)]) hx hb dX3_firstBeginningFrom_53 rfl hl (by decide) rfl (fun ls hl => ?_)
        obtain ⟨x54, ex54⟩ : ∃ y : Int32, y = x5 + 1 := ⟨_, rfl⟩
        have tx54 : x54.toInt = x5.toInt + 1 := by rw [ex54]; exact ti_add rfl (by decide) (by omega) (by omega)
        refine lv_iinc (v := x54) (lv' := [(5, .int x54), (3, .int x52), (6, .int x28), (0, .ref qx), (1, .long p0), (4, .int x4)]) hx hb dX3_firstBeginningFrom_54 hl (k := 5) rfl (by rw [ex54]; rfl) (by decide) rfl (fun ls hl => ?_)
        refine lv_goto (tgt := 9) hx hb dX3_firstBeginningFrom_57 (by decide) ?_
        exact ih9 x52 x4 x54 ls _ _ ⟨hP, hD, hS, lv_sub hl [3, 4, 1, 5, 0] rfl, (show 0 ≤ x52.toInt ∧ x52.toInt ≤ x4.toInt ∧ x4.toInt ≤ 1000001 from by omega), (show 0 ≤ x54.toInt ∧ x54.toInt ≤ 200 from by omega), (show ∀ x : Nat, (x : Int) < x52.toInt → Bg (paceF kt ks kf kl nm) gt gu nh x < p0.toInt from (by first | exact i3 | exact fun x hx => by have := Bg_le (P := paceF kt ks kf kl nm) (pace_rng hOm) hOh (show x ≤ x28.toInt.toNat by omega); omega)), (show x4.toInt ≤ 1000000 → p0.toInt ≤ Bg (paceF kt ks kf kl nm) gt gu nh x4.toInt.toNat from (by first | exact i4 | exact fun _ => by omega)), (show (x4.toInt - x52.toInt) * 2 ^ x54.toInt.toNat ≤ 2 ^ 180 from (by rw [show x54.toInt.toNat = x5.toInt.toNat + 1 by omega]; exact pow_step i5 (by omega)))⟩ (show (200 - x54.toInt).toNat < (200 - x5.toInt).toNat from by omega)
      · have k39 : (p0.toInt : Int) ≤ r34.toInt := l_nlt rfl rfl (fun h9 => c39 ((lg_cmp_lt _ _).mpr h9))
        refine lv_iload hx hb dX3_firstBeginningFrom_42 (lv_at hl 0 rfl) ?_
        refine lv_istore (lv' := [(4, .int x28), (6, .int x28), (0, .ref qx), (1, .long p0), (3, .int x3), (5, .int x5)]) hx hb dX3_firstBeginningFrom_44  hl (by decide) rfl (fun ls hl => ?_)
        refine lv_goto (tgt := 54) hx hb dX3_firstBeginningFrom_46 (by decide) ?_
        obtain ⟨x54_2, ex54_2⟩ : ∃ y : Int32, y = x5 + 1 := ⟨_, rfl⟩
        have tx54_2 : x54_2.toInt = x5.toInt + 1 := by rw [ex54_2]; exact ti_add rfl (by decide) (by omega) (by omega)
        refine lv_iinc (v := x54_2) (lv' := [(5, .int x54_2), (4, .int x28), (6, .int x28), (0, .ref qx), (1, .long p0), (3, .int x3)]) hx hb dX3_firstBeginningFrom_54 hl (k := 5) rfl (by rw [ex54_2]; rfl) (by decide) rfl (fun ls hl => ?_)
        refine lv_goto (tgt := 9) hx hb dX3_firstBeginningFrom_57 (by decide) ?_
        exact ih9 x3 x28 x54_2 ls _ _ ⟨hP, hD, hS, lv_sub hl [3, 4, 5, 1, 0] rfl, (show 0 ≤ x3.toInt ∧ x3.toInt ≤ x28.toInt ∧ x28.toInt ≤ 1000001 from by omega), (show 0 ≤ x54_2.toInt ∧ x54_2.toInt ≤ 200 from by omega), (show ∀ x : Nat, (x : Int) < x3.toInt → Bg (paceF kt ks kf kl nm) gt gu nh x < p0.toInt from (by first | exact i3 | exact fun x hx => by have := Bg_le (P := paceF kt ks kf kl nm) (pace_rng hOm) hOh (show x ≤ x28.toInt.toNat by omega); omega)), (show x28.toInt ≤ 1000000 → p0.toInt ≤ Bg (paceF kt ks kf kl nm) gt gu nh x28.toInt.toNat from (by first | exact i4 | exact fun _ => by omega)), (show (x28.toInt - x3.toInt) * 2 ^ x54_2.toInt.toNat ≤ 2 ^ 180 from (by rw [show x54_2.toInt.toNat = x5.toInt.toNat + 1 by omega]; exact pow_step i5 (by omega)))⟩ (show (200 - x54_2.toInt).toNat < (200 - x5.toInt).toNat from by omega)

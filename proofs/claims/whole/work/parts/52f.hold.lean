set_option maxHeartbeats 1000000 in
set_option maxRecDepth 100000 in
theorem ct_X4_hold (l : Launch) (G : va_G) (cI cL : ClassId) (sz : Nat) (qy : Nat) (qy1 : Nat) (qy2 : Nat) (qy3 : Nat) (qy4 : Nat) (qy5 : Nat) (qy6 : Nat) (qy7 : Nat) (zM : Int32) (zH : Int32) (zT : Int32) (bg : Int64) (Mt : Nat → Int32) (Ms : Nat → Int32) (Mf : Nat → Int32) (Ml : Nat → Int32) (Ht : Nat → Int32) (Hu : Nat → Int32) (Tp : Nat → Int64) (p0 : Int32) (p1 : Int32) (nm : Nat) (hnM : zM.toInt = nm) (hOM : okM nm Mt Ms Mf Ml) (nh : Nat) (hnH : zH.toInt = nh) (hOH : okH nh Ht Hu) (nt : Nat) (hnT : zT.toInt = nt) (hOT : okT nt Tp) : Met l yX4_hold wsX4_hold ({ frames := 1, cells := 0, slots := 0, locals := 25 }) (va_Pc [.ref qy, .int p0, .int p1] (pre0 G cI cL [(qy, .inr (4, [.ref qy1, .ref qy2, .ref qy3, .ref qy4, .int zM, .ref qy5, .ref qy6, .int zH, .ref qy7, .int zT, .long bg])), (qy1, .inl (cI, 40, .inl Mt)), (qy2, .inl (cI, 40, .inl Ms)), (qy3, .inl (cI, 40, .inl Mf)), (qy4, .inl (cI, 40, .inl Ml)), (qy5, .inl (cI, 20, .inl Ht)), (qy6, .inl (cI, 20, .inl Hu)), (qy7, .inl (cL, 40, .inr (.inl Tp)))] sz)) (va_Qi (fun (r : Int32) (u : Int32 × (Nat → Int32) × (Nat → Int32)) => ∃ n' : Nat, u.1.toInt = n' ∧ hHold nh Ht Hu p0 p1 r.toInt n' u.2.1 u.2.2) (fun (u : Int32 × (Nat → Int32) × (Nat → Int32)) t => va_P G vwCl [(qy, .inr (4, [.ref qy1, .ref qy2, .ref qy3, .ref qy4, .int zM, .ref qy5, .ref qy6, .int u.1, .ref qy7, .int zT, .long bg])), (qy1, .inl (cI, 40, .inl Mt)), (qy2, .inl (cI, 40, .inl Ms)), (qy3, .inl (cI, 40, .inl Mf)), (qy4, .inl (cI, 40, .inl Ml)), (qy5, .inl (cI, 20, .inl (u.2.1))), (qy6, .inl (cI, 20, .inl (u.2.2))), (qy7, .inl (cL, 40, .inr (.inl Tp)))] t.heap ∧ va_D (va_A [(qy, .inr (4, [.ref qy1, .ref qy2, .ref qy3, .ref qy4, .int zM, .ref qy5, .ref qy6, .int zH, .ref qy7, .int zT, .long bg])), (qy1, .inl (cI, 40, .inl Mt)), (qy2, .inl (cI, 40, .inl Ms)), (qy3, .inl (cI, 40, .inl Mf)), (qy4, .inl (cI, 40, .inl Ml)), (qy5, .inl (cI, 20, .inl Ht)), (qy6, .inl (cI, 20, .inl Hu)), (qy7, .inl (cL, 40, .inr (.inl Tp)))] sz) [(qy, .inr (4, [.ref qy1, .ref qy2, .ref qy3, .ref qy4, .int zM, .ref qy5, .ref qy6, .int u.1, .ref qy7, .int zT, .long bg])), (qy1, .inl (cI, 40, .inl Mt)), (qy2, .inl (cI, 40, .inl Ms)), (qy3, .inl (cI, 40, .inl Mf)), (qy4, .inl (cI, 40, .inl Ml)), (qy5, .inl (cI, 20, .inl (u.2.1))), (qy6, .inl (cI, 20, .inl (u.2.2))), (qy7, .inl (cL, 40, .inr (.inl Tp)))]) (va_A [(qy, .inr (4, [.ref qy1, .ref qy2, .ref qy3, .ref qy4, .int zM, .ref qy5, .ref qy6, .int zH, .ref qy7, .int zT, .long bg])), (qy1, .inl (cI, 40, .inl Mt)), (qy2, .inl (cI, 40, .inl Ms)), (qy3, .inl (cI, 40, .inl Mf)), (qy4, .inl (cI, 40, .inl Ml)), (qy5, .inl (cI, 20, .inl Ht)), (qy6, .inl (cI, 20, .inl Hu)), (qy7, .inl (cL, 40, .inr (.inl Tp)))] sz)) 0 0 (va_A [(qy, .inr (4, [.ref qy1, .ref qy2, .ref qy3, .ref qy4, .int zM, .ref qy5, .ref qy6, .int zH, .ref qy7, .int zT, .long bg])), (qy1, .inl (cI, 40, .inl Mt)), (qy2, .inl (cI, 40, .inl Ms)), (qy3, .inl (cI, 40, .inl Mf)), (qy4, .inl (cI, 40, .inl Ml)), (qy5, .inl (cI, 20, .inl Ht)), (qy6, .inl (cI, 20, .inl Hu)), (qy7, .inl (cL, 40, .inr (.inl Tp)))] sz) := by
  refine Met.ofW (cc := cX4_hold) (maxL := 4) (ret := (some .int)) (by decide) rfl ?_
  intro p e s m args below meth c s₁ B hml hv
  obtain ⟨rfl, hsz, hP, hK, hD0, hN⟩ := hv
  have hx := B.exec
  have hb := B.bytes
  have hr := B.returns
  have hts := atoms_spec (ws := wsX4_hold) B.pre
  have hown : s.vm.findClass RX4 = some m.cls := findClass_of_methodNamed B.named
  have hlocks := B.notSynchronized
  subst hsz
  have hD := hD0.self (sz := s.heap.size)
  generalize hAe : va_A [(qy, .inr (4, [.ref qy1, .ref qy2, .ref qy3, .ref qy4, .int zM, .ref qy5, .ref qy6, .int zH, .ref qy7, .int zT, .long bg])), (qy1, .inl (cI, 40, .inl Mt)), (qy2, .inl (cI, 40, .inl Ms)), (qy3, .inl (cI, 40, .inl Mf)), (qy4, .inl (cI, 40, .inl Ml)), (qy5, .inl (cI, 20, .inl Ht)), (qy6, .inl (cI, 20, .inl Hu)), (qy7, .inl (cL, 40, .inr (.inl Tp)))] s.heap.size = A at hD ⊢
  have hA : ∀ q : Nat, s.heap.size ≤ q → A q := fun q h => by rw [← hAe]; exact Or.inr h
  have hP : va_P G vwCl [(qy, .inr (4, [.ref qy1, .ref qy2, .ref qy3, .ref qy4, .int zM, .ref qy5, .ref qy6, .int zH, .ref qy7, .int zT, .long bg])), (qy1, .inl (cI, 40, .inl Mt)), (qy2, .inl (cI, 40, .inl Ms)), (qy3, .inl (cI, 40, .inl Mf)), (qy4, .inl (cI, 40, .inl Ml)), (qy5, .inl (cI, 20, .inl Ht)), (qy6, .inl (cI, 20, .inl Hu)), (qy7, .inl (cL, 40, .inr (.inl Tp)))] s.heap := hP
  have hl := lv_entry ([.ref qy, .int p0, .int p1]) (n := 4) (Nat.le_of_ble_eq_true rfl)
  rw [lg_entry_eq]
  generalize (lg_sl ([.ref qy, .int p0, .int p1]) ++ List.replicate (4 - (lg_sl ([.ref qy, .int p0, .int p1])).length) Slot.unset).toArray = ls at hl ⊢
  have hl : lv_has ls 4 [(0, .ref qy), (1, .int p0), (2, .int p1)] := hl
  have hf67 := hts (.fieldLink RX4 67 "TempoMapsModel" "holds" "I") (by decide +kernel)
  have hf22 := hts (.fieldLink RX4 22 "TempoMapsModel" "holdTick" "[I") (by decide +kernel)
  have hf25 := hts (.fieldLink RX4 25 "TempoMapsModel" "holdUnits" "[I") (by decide +kernel)
  have hiX4 : ∀ w ∈ wsX40, w ∈ wsX4_hold := by decide +kernel
  have zim4 : ((-4 : Int32)).toInt = -4 := by decide
  have zim2 : ((-2 : Int32)).toInt = -2 := by decide
  have zim1 : ((-1 : Int32)).toInt = -1 := by decide
  have zi1 : ((1 : Int32)).toInt = 1 := by decide
  have zi20 : ((20 : Int32)).toInt = 20 := by decide
  have zl0 : ((0 : Int64)).toInt = 0 := by decide
  have zl1000000 : ((1000000 : Int64)).toInt = 1000000 := by decide
  have zl1000000000 : ((1000000000 : Int64)).toInt = 1000000000 := by decide
  refine w_h (A := A) hP (fun H locs hP hS => ?_)
  have hn40 := hOM.1
  have hrg := hOM.2.1
  have hn20 := hOH.1
  have hrh := hOH.2.1
  have hn41 := hOT.1
  have hrt := hOT.2.1
  have zz0 : ((0 : Int32)).toInt = 0 := by decide
  refine lv_iload_n hx hb dX4_hold_0 rfl (lv_at hl 1 rfl) ?_
  refine lv_i2l hx hb dX4_hold_1 rfl ?_
  refine lv_topl (fun x1 ex1 => ?_)
  have tx1 : x1.toInt = p0.toInt := by rw [ex1]; exact tc_i2l rfl
  refine lv_lconst (v := 0) hx hb dX4_hold_2 (by decide) ?_
  refine lv_ldc2 (v := 1000000) hx hb hown (hts (.constantLong RX4 53 1000000) (by decide +kernel)) dX4_hold_3 ?_
  have hPc := hP.sub (ws' := ([] : va_W)) [] rfl
  have hDc := hD.sub (ws' := ([] : va_W)) [] (by decide) rfl
  have hcc := (ct_X4_in l G cI cL H.size x1 0 1000000)
  refine ro_calli (va_runS (As := [.long x1, .long 0, .long 1000000]) (rest := []) ⟨hx, hb, hml, hown, hts⟩ hcc (va_cwS 3 hts gX4_hold_X4_in rfl rfl rfl (by decide +kernel) ⟨Nat.le_of_ble_eq_true rfl, Nat.le_of_ble_eq_true rfl⟩) ⟨pre_blind, pre_pass hK hN hPc hDc⟩ rfl rfl hl.1 rfl (lv_room (Nat.le_of_ble_eq_true rfl)) dX4_hold_6 ⟨Nat.le_of_ble_eq_true rfl, Nat.le_of_ble_eq_true rfl⟩) hP hD hS hA [] rfl (fun r6 H locs hw6 hP hS => ?_)
  try dsimp only at hw6
  refine lv_if_eq (tgt := 24) hx hb dX4_hold_9 (by decide) (fun c9 => ?_) (fun c9 => ?_)
  · have k9 : (r6.toInt : Int) = 0 := i_eq rfl (show ((0 : Int32)).toInt = 0 by decide) c9
    refine lv_bipush (v := (-2)) hx hb dX4_hold_24 (by decide) ?_
    exact W.iret (v := (-2)) hx hb hr (fun t ht hW => ⟨⟨(-2), (zH, Ht, Hu), rfl, (by (try dsimp only); exact ⟨nh, hnH, Or.inl ⟨by omega, by omega, rfl, rfl, rfl⟩⟩), by rw [ht]; exact hP, hD⟩, hS.F ht⟩) hS.2.2 dX4_hold_26
  · have k9 : (r6.toInt : Int) ≠ 0 := i_ne rfl (show ((0 : Int32)).toInt = 0 by decide) c9
    refine lv_iload_n hx hb dX4_hold_12 rfl (lv_at hl 2 rfl) ?_
    refine lv_i2l hx hb dX4_hold_13 rfl ?_
    refine lv_topl (fun x13 ex13 => ?_)
    have tx13 : x13.toInt = p1.toInt := by rw [ex13]; exact tc_i2l rfl
    refine lv_lconst (v := 0) hx hb dX4_hold_14 (by decide) ?_
    refine lv_ldc2 (v := 1000000000) hx hb hown (hts (.constantLong RX4 70 1000000000) (by decide +kernel)) dX4_hold_15 ?_
    have hPc := hP.sub (ws' := ([] : va_W)) [] rfl
    have hDc := hD.sub (ws' := ([] : va_W)) [] (by decide) rfl
    have hcc := (ct_X4_in l G cI cL H.size x13 0 1000000000)
    refine ro_calli (va_runS (As := [.long x13, .long 0, .long 1000000000]) (rest := []) ⟨hx, hb, hml, hown, hts⟩ hcc (va_cwS 3 hts gX4_hold_X4_in rfl rfl rfl (by decide +kernel) ⟨Nat.le_of_ble_eq_true rfl, Nat.le_of_ble_eq_true rfl⟩) ⟨pre_blind, pre_pass hK hN hPc hDc⟩ rfl rfl hl.1 rfl (lv_room (Nat.le_of_ble_eq_true rfl)) dX4_hold_18 ⟨Nat.le_of_ble_eq_true rfl, Nat.le_of_ble_eq_true rfl⟩) hP hD hS hA [] rfl (fun r18 H locs hw18 hP hS => ?_)
    try dsimp only at hw18
    refine lv_if_ne (tgt := 27) hx hb dX4_hold_21 (by decide) (fun c21 => ?_) (fun c21 => ?_)
    · have k21 : (r18.toInt : Int) ≠ 0 := i_ne rfl (show ((0 : Int32)).toInt = 0 by decide) c21
      refine lv_aload_n hx hb dX4_hold_27 rfl (lv_at hl 0 rfl) ?_
      refine lv_iload_n hx hb dX4_hold_28 rfl (lv_at hl 1 rfl) ?_
      have hPc := hP.sub (ws' := [(qy, .inr (4, [.ref qy1, .ref qy2, .ref qy3, .ref qy4, .int zM, .ref qy5, .ref qy6, .int zH, .ref qy7, .int zT, .long bg])), (qy1, .inl (cI, 40, .inl Mt)), (qy2, .inl (cI, 40, .inl Ms)), (qy3, .inl (cI, 40, .inl Mf)), (qy4, .inl (cI, 40, .inl Ml)), (qy5, .inl (cI, 20, .inl Ht)), (qy6, .inl (cI, 20, .inl Hu)), (qy7, .inl (cL, 40, .inr (.inl Tp)))]) [0, 1, 2, 3, 4, 5, 6, 7] rfl
      have hDc := hD.sub (ws' := [(qy, .inr (4, [.ref qy1, .ref qy2, .ref qy3, .ref qy4, .int zM, .ref qy5, .ref qy6, .int zH, .ref qy7, .int zT, .long bg])), (qy1, .inl (cI, 40, .inl Mt)), (qy2, .inl (cI, 40, .inl Ms)), (qy3, .inl (cI, 40, .inl Mf)), (qy4, .inl (cI, 40, .inl Ml)), (qy5, .inl (cI, 20, .inl Ht)), (qy6, .inl (cI, 20, .inl Hu)), (qy7, .inl (cL, 40, .inr (.inl Tp)))]) [0, 1, 2, 3, 4, 5, 6, 7] (by decide) rfl
      have hcc := (ct_X4_holdAt l G cI cL H.size qy qy1 qy2 qy3 qy4 qy5 qy6 qy7 zM zH zT bg Mt Ms Mf Ml Ht Hu Tp p0 nm hnM hOM nh hnH hOH nt hnT hOT)
      refine ro_calli (va_runV (As := [.int p0]) (rest := []) ⟨hx, hb, hml, hown, hts⟩ hcc (cwV 1 hts gX4_hold_X4_holdAt rfl rfl rfl (by decide +kernel) ⟨Nat.le_of_ble_eq_true rfl, Nat.le_of_ble_eq_true rfl⟩) ⟨pre_blind, va_recv hK hPc (ci := 4) (q0 := 0) rfl rfl, pre_pass hK hN hPc hDc⟩ rfl rfl hl.1 rfl (lv_room (Nat.le_of_ble_eq_true rfl)) dX4_hold_29 ⟨Nat.le_of_ble_eq_true rfl, Nat.le_of_ble_eq_true rfl⟩) hP hD hS hA [0, 1, 2, 3, 4, 5, 6, 7] rfl (fun r29 H locs hw29 hP hS => ?_)
      try dsimp only at hw29
      have hf := hfind_rng (t := Ht) (x := p0.toInt) nh
      try rw [← hw29] at hf
      refine lv_istore_n (lv' := [(3, .int r29), (0, .ref qy), (1, .int p0), (2, .int p1)]) hx hb dX4_hold_32 rfl hl (by decide) rfl (fun ls hl => ?_)
      refine lv_iload_n hx hb dX4_hold_33 rfl (lv_at hl 3 rfl) ?_
      refine lv_if_ne (tgt := 87) hx hb dX4_hold_34 (by decide) (fun c34 => ?_) (fun c34 => ?_)
      · have k34 : (p1.toInt : Int) ≠ 0 := i_ne rfl (show ((0 : Int32)).toInt = 0 by decide) c34
        refine lv_iload_n hx hb dX4_hold_87 rfl (lv_at hl 0 rfl) ?_
        refine lv_iconst (v := (-1)) hx hb dX4_hold_88 (by decide) ?_
        refine lv_icmp_ne (tgt := 104) hx hb dX4_hold_89 (by decide) (fun c89 => ?_) (fun c89 => ?_)
        · have k89 : (r29.toInt : Int) ≠ (-1) := i_ne rfl (show ((-1 : Int32)).toInt = -1 by decide) c89
          refine lv_iload_n hx hb dX4_hold_104 rfl (lv_at hl 0 rfl) ?_
          refine lv_iconst (v := (-1)) hx hb dX4_hold_105 (by decide) ?_
          refine lv_icmp_ne (tgt := 124) hx hb dX4_hold_106 (by decide) (fun c106 => ?_) (fun c106 => ?_)
          · have k106 : (r29.toInt : Int) ≠ (-1) := i_ne rfl (show ((-1 : Int32)).toInt = -1 by decide) c106
            have r0 : 0 ≤ r29.toInt := by omega
            refine lv_aload_n hx hb dX4_hold_124 rfl (lv_at hl 1 rfl) ?_
            refine va_get (D := G) (ci := 4) (v := .ref qy5) (C := RX4) (T := TX4) (N := 11) hx hb hts hiX4 hown hK hP 0 rfl rfl 5 (by decide) hf22 (fun _ h9 => h9) rfl dX4_hold_125 ?_
            refine lv_iload_n hx hb dX4_hold_128 rfl (lv_at hl 0 rfl) ?_
            refine lv_iload_n hx hb dX4_hold_129 rfl (lv_at hl 2 rfl) ?_
            refine va_iast hx hb hK hP hD hS 5 0 rfl rfl (vi_in rfl (by omega) (by omega)) dX4_hold_130 (fun H locs hP hD hS => ?_)
            rw [cl_nat rfl (show r29.toInt = ((r29.toInt.toNat : Nat) : Int) by omega)] at hP hD
            have hP : va_P G vwCl [(qy, .inr (4, [.ref qy1, .ref qy2, .ref qy3, .ref qy4, .int zM, .ref qy5, .ref qy6, .int zH, .ref qy7, .int zT, .long bg])), (qy1, .inl (cI, 40, .inl Mt)), (qy2, .inl (cI, 40, .inl Ms)), (qy3, .inl (cI, 40, .inl Mf)), (qy4, .inl (cI, 40, .inl Ml)), (qy5, .inl (cI, 20, .inl (upd Ht r29.toInt.toNat p0))), (qy6, .inl (cI, 20, .inl Hu)), (qy7, .inl (cL, 40, .inr (.inl Tp)))] H := hP
            have hD : va_D A [(qy, .inr (4, [.ref qy1, .ref qy2, .ref qy3, .ref qy4, .int zM, .ref qy5, .ref qy6, .int zH, .ref qy7, .int zT, .long bg])), (qy1, .inl (cI, 40, .inl Mt)), (qy2, .inl (cI, 40, .inl Ms)), (qy3, .inl (cI, 40, .inl Mf)), (qy4, .inl (cI, 40, .inl Ml)), (qy5, .inl (cI, 20, .inl (upd Ht r29.toInt.toNat p0))), (qy6, .inl (cI, 20, .inl Hu)), (qy7, .inl (cL, 40, .inr (.inl Tp)))] := hD
            refine lv_aload_n hx hb dX4_hold_131 rfl (lv_at hl 1 rfl) ?_
            refine va_get (D := G) (ci := 4) (v := .ref qy6) (C := RX4) (T := TX4) (N := 11) hx hb hts hiX4 hown hK hP 0 rfl rfl 6 (by decide) hf25 (fun _ h9 => h9) rfl dX4_hold_132 ?_
            refine lv_iload_n hx hb dX4_hold_135 rfl (lv_at hl 0 rfl) ?_
            refine lv_iload_n hx hb dX4_hold_136 rfl (lv_at hl 3 rfl) ?_
            refine va_iast hx hb hK hP hD hS 6 0 rfl rfl (vi_in rfl (by omega) (by omega)) dX4_hold_137 (fun H locs hP hD hS => ?_)
            rw [cl_nat rfl (show r29.toInt = ((r29.toInt.toNat : Nat) : Int) by omega)] at hP hD
            have hP : va_P G vwCl [(qy, .inr (4, [.ref qy1, .ref qy2, .ref qy3, .ref qy4, .int zM, .ref qy5, .ref qy6, .int zH, .ref qy7, .int zT, .long bg])), (qy1, .inl (cI, 40, .inl Mt)), (qy2, .inl (cI, 40, .inl Ms)), (qy3, .inl (cI, 40, .inl Mf)), (qy4, .inl (cI, 40, .inl Ml)), (qy5, .inl (cI, 20, .inl (upd Ht r29.toInt.toNat p0))), (qy6, .inl (cI, 20, .inl (upd Hu r29.toInt.toNat p1))), (qy7, .inl (cL, 40, .inr (.inl Tp)))] H := hP
            have hD : va_D A [(qy, .inr (4, [.ref qy1, .ref qy2, .ref qy3, .ref qy4, .int zM, .ref qy5, .ref qy6, .int zH, .ref qy7, .int zT, .long bg])), (qy1, .inl (cI, 40, .inl Mt)), (qy2, .inl (cI, 40, .inl Ms)), (qy3, .inl (cI, 40, .inl Mf)), (qy4, .inl (cI, 40, .inl Ml)), (qy5, .inl (cI, 20, .inl (upd Ht r29.toInt.toNat p0))), (qy6, .inl (cI, 20, .inl (upd Hu r29.toInt.toNat p1))), (qy7, .inl (cL, 40, .inr (.inl Tp)))] := hD
            refine lv_aload_n hx hb dX4_hold_138 rfl (lv_at hl 1 rfl) ?_
            refine va_get (D := G) (ci := 4) (v := .int zH) (C := RX4) (T := TX4) (N := 11) hx hb hts hiX4 hown hK hP 0 rfl rfl 7 (by decide) hf67 (fun _ h9 => h9) rfl dX4_hold_139 ?_
            exact W.iret (v := zH) hx hb hr (fun t ht hW => ⟨⟨zH, (zH, upd Ht r29.toInt.toNat p0, upd Hu r29.toInt.toNat p1), rfl, (by (try dsimp only); exact (by first | exact ⟨nh, hnH, Or.inr (Or.inr ⟨by omega, Or.inl ⟨by omega, by omega, rfl, by rw [← hw29], by rw [← hw29]⟩⟩)⟩ | exact ⟨nh + 1, by omega, Or.inr (Or.inr ⟨by omega, Or.inr (Or.inr ⟨by omega, by omega, by omega, rfl, by rw [show zH.toInt.toNat = nh by omega], by rw [show zH.toInt.toNat = nh by omega]⟩)⟩)⟩ | exact absurd k89 (by omega))), by rw [ht]; exact hP, hD⟩, hS.F ht⟩) hS.2.2 dX4_hold_142
          · have k106 : (r29.toInt : Int) = (-1) := i_eq rfl (show ((-1 : Int32)).toInt = -1 by decide) c106
            refine lv_aload_n hx hb dX4_hold_109 rfl (lv_at hl 1 rfl) ?_
            refine va_get (D := G) (ci := 4) (v := .int zH) (C := RX4) (T := TX4) (N := 11) hx hb hts hiX4 hown hK hP 0 rfl rfl 7 (by decide) hf67 (fun _ h9 => h9) rfl dX4_hold_110 ?_
            refine lv_istore_n (lv' := [(3, .int zH), (0, .ref qy), (1, .int p0), (2, .int p1)]) hx hb dX4_hold_113 rfl hl (by decide) rfl (fun ls hl => ?_)
            refine lv_aload_n hx hb dX4_hold_114 rfl (lv_at hl 1 rfl) ?_
            refine lv_dup hx hb dX4_hold_115 rfl ?_
            refine va_get (D := G) (ci := 4) (v := .int zH) (C := RX4) (T := TX4) (N := 11) hx hb hts hiX4 hown hK hP 0 rfl rfl 7 (by decide) hf67 (fun _ h9 => h9) rfl dX4_hold_116 ?_
            refine lv_iconst (v := 1) hx hb dX4_hold_119 (by decide) ?_
            refine lv_iadd hx hb dX4_hold_120 ?_
            refine lv_topi (fun x120 ex120 => ?_)
            have tx120 : x120.toInt = zH.toInt + 1 := by rw [ex120]; exact ti_add rfl (show ((1 : Int32)).toInt = 1 by decide) (by omega) (by omega)
            refine va_put (D := G) (ci := 4) (v := .int x120) (ty := .int) (C := RX4) (T := TX4) (N := 11) hx hb hts hiX4 tyX4 tyX4_ok nmX4 hown hK hP hD hS 0 rfl rfl 7 (by decide) hf67 (fun _ h9 => h9) rfl (by decide +kernel) rfl rfl (Nat.le_of_ble_eq_true rfl) dX4_hold_121 (fun H locs hP hD hS => ?_)
            have hP : va_P G vwCl [(qy, .inr (4, [.ref qy1, .ref qy2, .ref qy3, .ref qy4, .int zM, .ref qy5, .ref qy6, .int x120, .ref qy7, .int zT, .long bg])), (qy1, .inl (cI, 40, .inl Mt)), (qy2, .inl (cI, 40, .inl Ms)), (qy3, .inl (cI, 40, .inl Mf)), (qy4, .inl (cI, 40, .inl Ml)), (qy5, .inl (cI, 20, .inl Ht)), (qy6, .inl (cI, 20, .inl Hu)), (qy7, .inl (cL, 40, .inr (.inl Tp)))] H := hP
            have hD : va_D A [(qy, .inr (4, [.ref qy1, .ref qy2, .ref qy3, .ref qy4, .int zM, .ref qy5, .ref qy6, .int x120, .ref qy7, .int zT, .long bg])), (qy1, .inl (cI, 40, .inl Mt)), (qy2, .inl (cI, 40, .inl Ms)), (qy3, .inl (cI, 40, .inl Mf)), (qy4, .inl (cI, 40, .inl Ml)), (qy5, .inl (cI, 20, .inl Ht)), (qy6, .inl (cI, 20, .inl Hu)), (qy7, .inl (cL, 40, .inr (.inl Tp)))] := hD
            refine lv_aload_n hx hb dX4_hold_124 rfl (lv_at hl 1 rfl) ?_
            refine va_get (D := G) (ci := 4) (v := .ref qy5) (C := RX4) (T := TX4) (N := 11) hx hb hts hiX4 hown hK hP 0 rfl rfl 5 (by decide) hf22 (fun _ h9 => h9) rfl dX4_hold_125 ?_
            refine lv_iload_n hx hb dX4_hold_128 rfl (lv_at hl 0 rfl) ?_
            refine lv_iload_n hx hb dX4_hold_129 rfl (lv_at hl 2 rfl) ?_
            refine va_iast hx hb hK hP hD hS 5 0 rfl rfl (vi_in rfl (by omega) (by omega)) dX4_hold_130 (fun H locs hP hD hS => ?_)
            rw [cl_nat rfl (show zH.toInt = ((zH.toInt.toNat : Nat) : Int) by omega)] at hP hD
            have hP : va_P G vwCl [(qy, .inr (4, [.ref qy1, .ref qy2, .ref qy3, .ref qy4, .int zM, .ref qy5, .ref qy6, .int x120, .ref qy7, .int zT, .long bg])), (qy1, .inl (cI, 40, .inl Mt)), (qy2, .inl (cI, 40, .inl Ms)), (qy3, .inl (cI, 40, .inl Mf)), (qy4, .inl (cI, 40, .inl Ml)), (qy5, .inl (cI, 20, .inl (upd Ht zH.toInt.toNat p0))), (qy6, .inl (cI, 20, .inl Hu)), (qy7, .inl (cL, 40, .inr (.inl Tp)))] H := hP
            have hD : va_D A [(qy, .inr (4, [.ref qy1, .ref qy2, .ref qy3, .ref qy4, .int zM, .ref qy5, .ref qy6, .int x120, .ref qy7, .int zT, .long bg])), (qy1, .inl (cI, 40, .inl Mt)), (qy2, .inl (cI, 40, .inl Ms)), (qy3, .inl (cI, 40, .inl Mf)), (qy4, .inl (cI, 40, .inl Ml)), (qy5, .inl (cI, 20, .inl (upd Ht zH.toInt.toNat p0))), (qy6, .inl (cI, 20, .inl Hu)), (qy7, .inl (cL, 40, .inr (.inl Tp)))] := hD
            refine lv_aload_n hx hb dX4_hold_131 rfl (lv_at hl 1 rfl) ?_
            refine va_get (D := G) (ci := 4) (v := .ref qy6) (C := RX4) (T := TX4) (N := 11) hx hb hts hiX4 hown hK hP 0 rfl rfl 6 (by decide) hf25 (fun _ h9 => h9) rfl dX4_hold_132 ?_
            refine lv_iload_n hx hb dX4_hold_135 rfl (lv_at hl 0 rfl) ?_
            refine lv_iload_n hx hb dX4_hold_136 rfl (lv_at hl 3 rfl) ?_
            refine va_iast hx hb hK hP hD hS 6 0 rfl rfl (vi_in rfl (by omega) (by omega)) dX4_hold_137 (fun H locs hP hD hS => ?_)
            rw [cl_nat rfl (show zH.toInt = ((zH.toInt.toNat : Nat) : Int) by omega)] at hP hD
            have hP : va_P G vwCl [(qy, .inr (4, [.ref qy1, .ref qy2, .ref qy3, .ref qy4, .int zM, .ref qy5, .ref qy6, .int x120, .ref qy7, .int zT, .long bg])), (qy1, .inl (cI, 40, .inl Mt)), (qy2, .inl (cI, 40, .inl Ms)), (qy3, .inl (cI, 40, .inl Mf)), (qy4, .inl (cI, 40, .inl Ml)), (qy5, .inl (cI, 20, .inl (upd Ht zH.toInt.toNat p0))), (qy6, .inl (cI, 20, .inl (upd Hu zH.toInt.toNat p1))), (qy7, .inl (cL, 40, .inr (.inl Tp)))] H := hP
            have hD : va_D A [(qy, .inr (4, [.ref qy1, .ref qy2, .ref qy3, .ref qy4, .int zM, .ref qy5, .ref qy6, .int x120, .ref qy7, .int zT, .long bg])), (qy1, .inl (cI, 40, .inl Mt)), (qy2, .inl (cI, 40, .inl Ms)), (qy3, .inl (cI, 40, .inl Mf)), (qy4, .inl (cI, 40, .inl Ml)), (qy5, .inl (cI, 20, .inl (upd Ht zH.toInt.toNat p0))), (qy6, .inl (cI, 20, .inl (upd Hu zH.toInt.toNat p1))), (qy7, .inl (cL, 40, .inr (.inl Tp)))] := hD
            refine lv_aload_n hx hb dX4_hold_138 rfl (lv_at hl 1 rfl) ?_
            refine va_get (D := G) (ci := 4) (v := .int x120) (C := RX4) (T := TX4) (N := 11) hx hb hts hiX4 hown hK hP 0 rfl rfl 7 (by decide) hf67 (fun _ h9 => h9) rfl dX4_hold_139 ?_
            exact W.iret (v := x120) hx hb hr (fun t ht hW => ⟨⟨x120, (x120, upd Ht zH.toInt.toNat p0, upd Hu zH.toInt.toNat p1), rfl, (by (try dsimp only); exact (by first | exact ⟨nh, hnH, Or.inr (Or.inr ⟨by omega, Or.inl ⟨by omega, by omega, rfl, by rw [← hw29], by rw [← hw29]⟩⟩)⟩ | exact ⟨nh + 1, by omega, Or.inr (Or.inr ⟨by omega, Or.inr (Or.inr ⟨by omega, by omega, by omega, rfl, by rw [show zH.toInt.toNat = nh by omega], by rw [show zH.toInt.toNat = nh by omega]⟩)⟩)⟩ | exact absurd k89 (by omega))), by rw [ht]; exact hP, hD⟩, hS.F ht⟩) hS.2.2 dX4_hold_142
        · have k89 : (r29.toInt : Int) = (-1) := i_eq rfl (show ((-1 : Int32)).toInt = -1 by decide) c89
          refine lv_aload_n hx hb dX4_hold_92 rfl (lv_at hl 1 rfl) ?_
          refine va_get (D := G) (ci := 4) (v := .int zH) (C := RX4) (T := TX4) (N := 11) hx hb hts hiX4 hown hK hP 0 rfl rfl 7 (by decide) hf67 (fun _ h9 => h9) rfl dX4_hold_93 ?_
          refine lv_bipush (v := 20) hx hb dX4_hold_96 (by decide) ?_
          refine lv_icmp_ne (tgt := 104) hx hb dX4_hold_98 (by decide) (fun c98 => ?_) (fun c98 => ?_)
          · have k98 : (zH.toInt : Int) ≠ 20 := i_ne rfl (show ((20 : Int32)).toInt = 20 by decide) c98
            refine lv_iload_n hx hb dX4_hold_104 rfl (lv_at hl 0 rfl) ?_
            refine lv_iconst (v := (-1)) hx hb dX4_hold_105 (by decide) ?_
            refine lv_icmp_ne (tgt := 124) hx hb dX4_hold_106 (by decide) (fun c106 => ?_) (fun c106 => ?_)
            · have k106 : (r29.toInt : Int) ≠ (-1) := i_ne rfl (show ((-1 : Int32)).toInt = -1 by decide) c106
              have r0 : 0 ≤ r29.toInt := by omega
              refine lv_aload_n hx hb dX4_hold_124 rfl (lv_at hl 1 rfl) ?_
              refine va_get (D := G) (ci := 4) (v := .ref qy5) (C := RX4) (T := TX4) (N := 11) hx hb hts hiX4 hown hK hP 0 rfl rfl 5 (by decide) hf22 (fun _ h9 => h9) rfl dX4_hold_125 ?_
              refine lv_iload_n hx hb dX4_hold_128 rfl (lv_at hl 0 rfl) ?_
              refine lv_iload_n hx hb dX4_hold_129 rfl (lv_at hl 2 rfl) ?_
              refine va_iast hx hb hK hP hD hS 5 0 rfl rfl (vi_in rfl (by omega) (by omega)) dX4_hold_130 (fun H locs hP hD hS => ?_)
              rw [cl_nat rfl (show r29.toInt = ((r29.toInt.toNat : Nat) : Int) by omega)] at hP hD
              have hP : va_P G vwCl [(qy, .inr (4, [.ref qy1, .ref qy2, .ref qy3, .ref qy4, .int zM, .ref qy5, .ref qy6, .int zH, .ref qy7, .int zT, .long bg])), (qy1, .inl (cI, 40, .inl Mt)), (qy2, .inl (cI, 40, .inl Ms)), (qy3, .inl (cI, 40, .inl Mf)), (qy4, .inl (cI, 40, .inl Ml)), (qy5, .inl (cI, 20, .inl (upd Ht r29.toInt.toNat p0))), (qy6, .inl (cI, 20, .inl Hu)), (qy7, .inl (cL, 40, .inr (.inl Tp)))] H := hP
              have hD : va_D A [(qy, .inr (4, [.ref qy1, .ref qy2, .ref qy3, .ref qy4, .int zM, .ref qy5, .ref qy6, .int zH, .ref qy7, .int zT, .long bg])), (qy1, .inl (cI, 40, .inl Mt)), (qy2, .inl (cI, 40, .inl Ms)), (qy3, .inl (cI, 40, .inl Mf)), (qy4, .inl (cI, 40, .inl Ml)), (qy5, .inl (cI, 20, .inl (upd Ht r29.toInt.toNat p0))), (qy6, .inl (cI, 20, .inl Hu)), (qy7, .inl (cL, 40, .inr (.inl Tp)))] := hD
              refine lv_aload_n hx hb dX4_hold_131 rfl (lv_at hl 1 rfl) ?_
              refine va_get (D := G) (ci := 4) (v := .ref qy6) (C := RX4) (T := TX4) (N := 11) hx hb hts hiX4 hown hK hP 0 rfl rfl 6 (by decide) hf25 (fun _ h9 => h9) rfl dX4_hold_132 ?_
              refine lv_iload_n hx hb dX4_hold_135 rfl (lv_at hl 0 rfl) ?_
              refine lv_iload_n hx hb dX4_hold_136 rfl (lv_at hl 3 rfl) ?_
              refine va_iast hx hb hK hP hD hS 6 0 rfl rfl (vi_in rfl (by omega) (by omega)) dX4_hold_137 (fun H locs hP hD hS => ?_)
              rw [cl_nat rfl (show r29.toInt = ((r29.toInt.toNat : Nat) : Int) by omega)] at hP hD
              have hP : va_P G vwCl [(qy, .inr (4, [.ref qy1, .ref qy2, .ref qy3, .ref qy4, .int zM, .ref qy5, .ref qy6, .int zH, .ref qy7, .int zT, .long bg])), (qy1, .inl (cI, 40, .inl Mt)), (qy2, .inl (cI, 40, .inl Ms)), (qy3, .inl (cI, 40, .inl Mf)), (qy4, .inl (cI, 40, .inl Ml)), (qy5, .inl (cI, 20, .inl (upd Ht r29.toInt.toNat p0))), (qy6, .inl (cI, 20, .inl (upd Hu r29.toInt.toNat p1))), (qy7, .inl (cL, 40, .inr (.inl Tp)))] H := hP
              have hD : va_D A [(qy, .inr (4, [.ref qy1, .ref qy2, .ref qy3, .ref qy4, .int zM, .ref qy5, .ref qy6, .int zH, .ref qy7, .int zT, .long bg])), (qy1, .inl (cI, 40, .inl Mt)), (qy2, .inl (cI, 40, .inl Ms)), (qy3, .inl (cI, 40, .inl Mf)), (qy4, .inl (cI, 40, .inl Ml)), (qy5, .inl (cI, 20, .inl (upd Ht r29.toInt.toNat p0))), (qy6, .inl (cI, 20, .inl (upd Hu r29.toInt.toNat p1))), (qy7, .inl (cL, 40, .inr (.inl Tp)))] := hD
              refine lv_aload_n hx hb dX4_hold_138 rfl (lv_at hl 1 rfl) ?_
              refine va_get (D := G) (ci := 4) (v := .int zH) (C := RX4) (T := TX4) (N := 11) hx hb hts hiX4 hown hK hP 0 rfl rfl 7 (by decide) hf67 (fun _ h9 => h9) rfl dX4_hold_139 ?_
              exact W.iret (v := zH) hx hb hr (fun t ht hW => ⟨⟨zH, (zH, upd Ht r29.toInt.toNat p0, upd Hu r29.toInt.toNat p1), rfl, (by (try dsimp only); exact (by first | exact ⟨nh, hnH, Or.inr (Or.inr ⟨by omega, Or.inl ⟨by omega, by omega, rfl, by rw [← hw29], by rw [← hw29]⟩⟩)⟩ | exact ⟨nh + 1, by omega, Or.inr (Or.inr ⟨by omega, Or.inr (Or.inr ⟨by omega, by omega, by omega, rfl, by rw [show zH.toInt.toNat = nh by omega], by rw [show zH.toInt.toNat = nh by omega]⟩)⟩)⟩ | exact absurd k89 (by omega))), by rw [ht]; exact hP, hD⟩, hS.F ht⟩) hS.2.2 dX4_hold_142
            · have k106 : (r29.toInt : Int) = (-1) := i_eq rfl (show ((-1 : Int32)).toInt = -1 by decide) c106
              refine lv_aload_n hx hb dX4_hold_109 rfl (lv_at hl 1 rfl) ?_
              refine va_get (D := G) (ci := 4) (v := .int zH) (C := RX4) (T := TX4) (N := 11) hx hb hts hiX4 hown hK hP 0 rfl rfl 7 (by decide) hf67 (fun _ h9 => h9) rfl dX4_hold_110 ?_
              refine lv_istore_n (lv' := [(3, .int zH), (0, .ref qy), (1, .int p0), (2, .int p1)]) hx hb dX4_hold_113 rfl hl (by decide) rfl (fun ls hl => ?_)
              refine lv_aload_n hx hb dX4_hold_114 rfl (lv_at hl 1 rfl) ?_
              refine lv_dup hx hb dX4_hold_115 rfl ?_
              refine va_get (D := G) (ci := 4) (v := .int zH) (C := RX4) (T := TX4) (N := 11) hx hb hts hiX4 hown hK hP 0 rfl rfl 7 (by decide) hf67 (fun _ h9 => h9) rfl dX4_hold_116 ?_
              refine lv_iconst (v := 1) hx hb dX4_hold_119 (by decide) ?_
              refine lv_iadd hx hb dX4_hold_120 ?_
              refine lv_topi (fun x120_2 ex120_2 => ?_)
              have tx120_2 : x120_2.toInt = zH.toInt + 1 := by rw [ex120_2]; exact ti_add rfl (show ((1 : Int32)).toInt = 1 by decide) (by omega) (by omega)
              refine va_put (D := G) (ci := 4) (v := .int x120_2) (ty := .int) (C := RX4) (T := TX4) (N := 11) hx hb hts hiX4 tyX4 tyX4_ok nmX4 hown hK hP hD hS 0 rfl rfl 7 (by decide) hf67 (fun _ h9 => h9) rfl (by decide +kernel) rfl rfl (Nat.le_of_ble_eq_true rfl) dX4_hold_121 (fun H locs hP hD hS => ?_)
              have hP : va_P G vwCl [(qy, .inr (4, [.ref qy1, .ref qy2, .ref qy3, .ref qy4, .int zM, .ref qy5, .ref qy6, .int x120_2, .ref qy7, .int zT, .long bg])), (qy1, .inl (cI, 40, .inl Mt)), (qy2, .inl (cI, 40, .inl Ms)), (qy3, .inl (cI, 40, .inl Mf)), (qy4, .inl (cI, 40, .inl Ml)), (qy5, .inl (cI, 20, .inl Ht)), (qy6, .inl (cI, 20, .inl Hu)), (qy7, .inl (cL, 40, .inr (.inl Tp)))] H := hP
              have hD : va_D A [(qy, .inr (4, [.ref qy1, .ref qy2, .ref qy3, .ref qy4, .int zM, .ref qy5, .ref qy6, .int x120_2, .ref qy7, .int zT, .long bg])), (qy1, .inl (cI, 40, .inl Mt)), (qy2, .inl (cI, 40, .inl Ms)), (qy3, .inl (cI, 40, .inl Mf)), (qy4, .inl (cI, 40, .inl Ml)), (qy5, .inl (cI, 20, .inl Ht)), (qy6, .inl (cI, 20, .inl Hu)), (qy7, .inl (cL, 40, .inr (.inl Tp)))] := hD
              refine lv_aload_n hx hb dX4_hold_124 rfl (lv_at hl 1 rfl) ?_
              refine va_get (D := G) (ci := 4) (v := .ref qy5) (C := RX4) (T := TX4) (N := 11) hx hb hts hiX4 hown hK hP 0 rfl rfl 5 (by decide) hf22 (fun _ h9 => h9) rfl dX4_hold_125 ?_
              refine lv_iload_n hx hb dX4_hold_128 rfl (lv_at hl 0 rfl) ?_
              refine lv_iload_n hx hb dX4_hold_129 rfl (lv_at hl 2 rfl) ?_
              refine va_iast hx hb hK hP hD hS 5 0 rfl rfl (vi_in rfl (by omega) (by omega)) dX4_hold_130 (fun H locs hP hD hS => ?_)
              rw [cl_nat rfl (show zH.toInt = ((zH.toInt.toNat : Nat) : Int) by omega)] at hP hD
              have hP : va_P G vwCl [(qy, .inr (4, [.ref qy1, .ref qy2, .ref qy3, .ref qy4, .int zM, .ref qy5, .ref qy6, .int x120_2, .ref qy7, .int zT, .long bg])), (qy1, .inl (cI, 40, .inl Mt)), (qy2, .inl (cI, 40, .inl Ms)), (qy3, .inl (cI, 40, .inl Mf)), (qy4, .inl (cI, 40, .inl Ml)), (qy5, .inl (cI, 20, .inl (upd Ht zH.toInt.toNat p0))), (qy6, .inl (cI, 20, .inl Hu)), (qy7, .inl (cL, 40, .inr (.inl Tp)))] H := hP
              have hD : va_D A [(qy, .inr (4, [.ref qy1, .ref qy2, .ref qy3, .ref qy4, .int zM, .ref qy5, .ref qy6, .int x120_2, .ref qy7, .int zT, .long bg])), (qy1, .inl (cI, 40, .inl Mt)), (qy2, .inl (cI, 40, .inl Ms)), (qy3, .inl (cI, 40, .inl Mf)), (qy4, .inl (cI, 40, .inl Ml)), (qy5, .inl (cI, 20, .inl (upd Ht zH.toInt.toNat p0))), (qy6, .inl (cI, 20, .inl Hu)), (qy7, .inl (cL, 40, .inr (.inl Tp)))] := hD
              refine lv_aload_n hx hb dX4_hold_131 rfl (lv_at hl 1 rfl) ?_
              refine va_get (D := G) (ci := 4) (v := .ref qy6) (C := RX4) (T := TX4) (N := 11) hx hb hts hiX4 hown hK hP 0 rfl rfl 6 (by decide) hf25 (fun _ h9 => h9) rfl dX4_hold_132 ?_
              refine lv_iload_n hx hb dX4_hold_135 rfl (lv_at hl 0 rfl) ?_
              refine lv_iload_n hx hb dX4_hold_136 rfl (lv_at hl 3 rfl) ?_
              refine va_iast hx hb hK hP hD hS 6 0 rfl rfl (vi_in rfl (by omega) (by omega)) dX4_hold_137 (fun H locs hP hD hS => ?_)
              rw [cl_nat rfl (show zH.toInt = ((zH.toInt.toNat : Nat) : Int) by omega)] at hP hD
              have hP : va_P G vwCl [(qy, .inr (4, [.ref qy1, .ref qy2, .ref qy3, .ref qy4, .int zM, .ref qy5, .ref qy6, .int x120_2, .ref qy7, .int zT, .long bg])), (qy1, .inl (cI, 40, .inl Mt)), (qy2, .inl (cI, 40, .inl Ms)), (qy3, .inl (cI, 40, .inl Mf)), (qy4, .inl (cI, 40, .inl Ml)), (qy5, .inl (cI, 20, .inl (upd Ht zH.toInt.toNat p0))), (qy6, .inl (cI, 20, .inl (upd Hu zH.toInt.toNat p1))), (qy7, .inl (cL, 40, .inr (.inl Tp)))] H := hP
              have hD : va_D A [(qy, .inr (4, [.ref qy1, .ref qy2, .ref qy3, .ref qy4, .int zM, .ref qy5, .ref qy6, .int x120_2, .ref qy7, .int zT, .long bg])), (qy1, .inl (cI, 40, .inl Mt)), (qy2, .inl (cI, 40, .inl Ms)), (qy3, .inl (cI, 40, .inl Mf)), (qy4, .inl (cI, 40, .inl Ml)), (qy5, .inl (cI, 20, .inl (upd Ht zH.toInt.toNat p0))), (qy6, .inl (cI, 20, .inl (upd Hu zH.toInt.toNat p1))), (qy7, .inl (cL, 40, .inr (.inl Tp)))] := hD
              refine lv_aload_n hx hb dX4_hold_138 rfl (lv_at hl 1 rfl) ?_
              refine va_get (D := G) (ci := 4) (v := .int x120_2) (C := RX4) (T := TX4) (N := 11) hx hb hts hiX4 hown hK hP 0 rfl rfl 7 (by decide) hf67 (fun _ h9 => h9) rfl dX4_hold_139 ?_
              exact W.iret (v := x120_2) hx hb hr (fun t ht hW => ⟨⟨x120_2, (x120_2, upd Ht zH.toInt.toNat p0, upd Hu zH.toInt.toNat p1), rfl, (by (try dsimp only); exact (by first | exact ⟨nh, hnH, Or.inr (Or.inr ⟨by omega, Or.inl ⟨by omega, by omega, rfl, by rw [← hw29], by rw [← hw29]⟩⟩)⟩ | exact ⟨nh + 1, by omega, Or.inr (Or.inr ⟨by omega, Or.inr (Or.inr ⟨by omega, by omega, by omega, rfl, by rw [show zH.toInt.toNat = nh by omega], by rw [show zH.toInt.toNat = nh by omega]⟩)⟩)⟩ | exact absurd k89 (by omega))), by rw [ht]; exact hP, hD⟩, hS.F ht⟩) hS.2.2 dX4_hold_142
          · have k98 : (zH.toInt : Int) = 20 := i_eq rfl (show ((20 : Int32)).toInt = 20 by decide) c98
            refine lv_bipush (v := (-4)) hx hb dX4_hold_101 (by decide) ?_
            exact W.iret (v := (-4)) hx hb hr (fun t ht hW => ⟨⟨(-4), (zH, Ht, Hu), rfl, (by (try dsimp only); exact ⟨nh, hnH, Or.inr (Or.inr ⟨by omega, Or.inr (Or.inl ⟨by omega, by omega, by omega, rfl, rfl, rfl⟩)⟩)⟩), by rw [ht]; exact hP, hD⟩, hS.F ht⟩) hS.2.2 dX4_hold_103
      · have k34 : (p1.toInt : Int) = 0 := i_eq rfl (show ((0 : Int32)).toInt = 0 by decide) c34
        refine lv_iload_n hx hb dX4_hold_37 rfl (lv_at hl 0 rfl) ?_
        refine lv_iconst (v := (-1)) hx hb dX4_hold_38 (by decide) ?_
        refine lv_icmp_eq (tgt := 82) hx hb dX4_hold_39 (by decide) (fun c39 => ?_) (fun c39 => ?_)
        · have k39 : (r29.toInt : Int) = (-1) := i_eq rfl (show ((-1 : Int32)).toInt = -1 by decide) c39
          refine lv_aload_n hx hb dX4_hold_82 rfl (lv_at hl 1 rfl) ?_
          refine va_get (D := G) (ci := 4) (v := .int zH) (C := RX4) (T := TX4) (N := 11) hx hb hts hiX4 hown hK hP 0 rfl rfl 7 (by decide) hf67 (fun _ h9 => h9) rfl dX4_hold_83 ?_
          exact W.iret (v := zH) hx hb hr (fun t ht hW => ⟨⟨zH, (zH, Ht, Hu), rfl, (by (try dsimp only); exact (by first | exact ⟨nh, hnH, Or.inr (Or.inl ⟨by omega, Or.inr ⟨by omega, by omega, rfl, rfl, rfl⟩⟩)⟩ | exact ⟨nh - 1, by omega, Or.inr (Or.inl ⟨by omega, Or.inl ⟨by omega, by omega, by omega, by rw [← hw29, ex65], by rw [← hw29, ex80]⟩⟩)⟩)), by rw [ht]; exact hP, hD⟩, hS.F ht⟩) hS.2.2 dX4_hold_86
        · have k39 : (r29.toInt : Int) ≠ (-1) := i_ne rfl (show ((-1 : Int32)).toInt = -1 by decide) c39
          have r0 : 0 ≤ r29.toInt := by omega
          refine lv_aload_n hx hb dX4_hold_42 rfl (lv_at hl 1 rfl) ?_
          refine lv_dup hx hb dX4_hold_43 rfl ?_
          refine va_get (D := G) (ci := 4) (v := .int zH) (C := RX4) (T := TX4) (N := 11) hx hb hts hiX4 hown hK hP 0 rfl rfl 7 (by decide) hf67 (fun _ h9 => h9) rfl dX4_hold_44 ?_
          refine lv_iconst (v := 1) hx hb dX4_hold_47 (by decide) ?_
          refine lv_isub hx hb dX4_hold_48 ?_
          refine lv_topi (fun x48 ex48 => ?_)
          have tx48 : x48.toInt = zH.toInt - 1 := by rw [ex48]; exact ti_sub rfl (show ((1 : Int32)).toInt = 1 by decide) (by omega) (by omega)
          refine va_put (D := G) (ci := 4) (v := .int x48) (ty := .int) (C := RX4) (T := TX4) (N := 11) hx hb hts hiX4 tyX4 tyX4_ok nmX4 hown hK hP hD hS 0 rfl rfl 7 (by decide) hf67 (fun _ h9 => h9) rfl (by decide +kernel) rfl rfl (Nat.le_of_ble_eq_true rfl) dX4_hold_49 (fun H locs hP hD hS => ?_)
          have hP : va_P G vwCl [(qy, .inr (4, [.ref qy1, .ref qy2, .ref qy3, .ref qy4, .int zM, .ref qy5, .ref qy6, .int x48, .ref qy7, .int zT, .long bg])), (qy1, .inl (cI, 40, .inl Mt)), (qy2, .inl (cI, 40, .inl Ms)), (qy3, .inl (cI, 40, .inl Mf)), (qy4, .inl (cI, 40, .inl Ml)), (qy5, .inl (cI, 20, .inl Ht)), (qy6, .inl (cI, 20, .inl Hu)), (qy7, .inl (cL, 40, .inr (.inl Tp)))] H := hP
          have hD : va_D A [(qy, .inr (4, [.ref qy1, .ref qy2, .ref qy3, .ref qy4, .int zM, .ref qy5, .ref qy6, .int x48, .ref qy7, .int zT, .long bg])), (qy1, .inl (cI, 40, .inl Mt)), (qy2, .inl (cI, 40, .inl Ms)), (qy3, .inl (cI, 40, .inl Mf)), (qy4, .inl (cI, 40, .inl Ml)), (qy5, .inl (cI, 20, .inl Ht)), (qy6, .inl (cI, 20, .inl Hu)), (qy7, .inl (cL, 40, .inr (.inl Tp)))] := hD
          refine lv_aload_n hx hb dX4_hold_52 rfl (lv_at hl 1 rfl) ?_
          refine va_get (D := G) (ci := 4) (v := .ref qy5) (C := RX4) (T := TX4) (N := 11) hx hb hts hiX4 hown hK hP 0 rfl rfl 5 (by decide) hf22 (fun _ h9 => h9) rfl dX4_hold_53 ?_
          refine lv_iload_n hx hb dX4_hold_56 rfl (lv_at hl 0 rfl) ?_
          refine lv_aload_n hx hb dX4_hold_57 rfl (lv_at hl 1 rfl) ?_
          refine va_get (D := G) (ci := 4) (v := .ref qy5) (C := RX4) (T := TX4) (N := 11) hx hb hts hiX4 hown hK hP 0 rfl rfl 5 (by decide) hf22 (fun _ h9 => h9) rfl dX4_hold_58 ?_
          refine lv_aload_n hx hb dX4_hold_61 rfl (lv_at hl 1 rfl) ?_
          refine va_get (D := G) (ci := 4) (v := .int x48) (C := RX4) (T := TX4) (N := 11) hx hb hts hiX4 hown hK hP 0 rfl rfl 7 (by decide) hf67 (fun _ h9 => h9) rfl dX4_hold_62 ?_
          refine va_iald hx hb hK hP 5 0 rfl rfl (vi_in rfl (by omega) (by omega)) dX4_hold_65 ?_
          refine lv_topi (fun x65 ex65 => ?_)
          have ex65 : x65 = Ht (nh - 1) := by rw [ex65]; exact congrArg _ (cl_nat rfl (by omega))
          have tx65 : x65.toInt = (Ht (nh - 1)).toInt := by rw [ex65]
          refine va_iast hx hb hK hP hD hS 5 0 rfl rfl (vi_in rfl (by omega) (by omega)) dX4_hold_66 (fun H locs hP hD hS => ?_)
          rw [cl_nat rfl (show r29.toInt = ((r29.toInt.toNat : Nat) : Int) by omega)] at hP hD
          have hP : va_P G vwCl [(qy, .inr (4, [.ref qy1, .ref qy2, .ref qy3, .ref qy4, .int zM, .ref qy5, .ref qy6, .int x48, .ref qy7, .int zT, .long bg])), (qy1, .inl (cI, 40, .inl Mt)), (qy2, .inl (cI, 40, .inl Ms)), (qy3, .inl (cI, 40, .inl Mf)), (qy4, .inl (cI, 40, .inl Ml)), (qy5, .inl (cI, 20, .inl (upd Ht r29.toInt.toNat x65))), (qy6, .inl (cI, 20, .inl Hu)), (qy7, .inl (cL, 40, .inr (.inl Tp)))] H := hP
          have hD : va_D A [(qy, .inr (4, [.ref qy1, .ref qy2, .ref qy3, .ref qy4, .int zM, .ref qy5, .ref qy6, .int x48, .ref qy7, .int zT, .long bg])), (qy1, .inl (cI, 40, .inl Mt)), (qy2, .inl (cI, 40, .inl Ms)), (qy3, .inl (cI, 40, .inl Mf)), (qy4, .inl (cI, 40, .inl Ml)), (qy5, .inl (cI, 20, .inl (upd Ht r29.toInt.toNat x65))), (qy6, .inl (cI, 20, .inl Hu)), (qy7, .inl (cL, 40, .inr (.inl Tp)))] := hD
          refine lv_aload_n hx hb dX4_hold_67 rfl (lv_at hl 1 rfl) ?_
          refine va_get (D := G) (ci := 4) (v := .ref qy6) (C := RX4) (T := TX4) (N := 11) hx hb hts hiX4 hown hK hP 0 rfl rfl 6 (by decide) hf25 (fun _ h9 => h9) rfl dX4_hold_68 ?_
          refine lv_iload_n hx hb dX4_hold_71 rfl (lv_at hl 0 rfl) ?_
          refine lv_aload_n hx hb dX4_hold_72 rfl (lv_at hl 1 rfl) ?_
          refine va_get (D := G) (ci := 4) (v := .ref qy6) (C := RX4) (T := TX4) (N := 11) hx hb hts hiX4 hown hK hP 0 rfl rfl 6 (by decide) hf25 (fun _ h9 => h9) rfl dX4_hold_73 ?_
          refine lv_aload_n hx hb dX4_hold_76 rfl (lv_at hl 1 rfl) ?_
          refine va_get (D := G) (ci := 4) (v := .int x48) (C := RX4) (T := TX4) (N := 11) hx hb hts hiX4 hown hK hP 0 rfl rfl 7 (by decide) hf67 (fun _ h9 => h9) rfl dX4_hold_77 ?_
          refine va_iald hx hb hK hP 6 0 rfl rfl (vi_in rfl (by omega) (by omega)) dX4_hold_80 ?_
          refine lv_topi (fun x80 ex80 => ?_)
          have ex80 : x80 = Hu (nh - 1) := by rw [ex80]; exact congrArg _ (cl_nat rfl (by omega))
          have tx80 : x80.toInt = (Hu (nh - 1)).toInt := by rw [ex80]
          refine va_iast hx hb hK hP hD hS 6 0 rfl rfl (vi_in rfl (by omega) (by omega)) dX4_hold_81 (fun H locs hP hD hS => ?_)
          rw [cl_nat rfl (show r29.toInt = ((r29.toInt.toNat : Nat) : Int) by omega)] at hP hD
          have hP : va_P G vwCl [(qy, .inr (4, [.ref qy1, .ref qy2, .ref qy3, .ref qy4, .int zM, .ref qy5, .ref qy6, .int x48, .ref qy7, .int zT, .long bg])), (qy1, .inl (cI, 40, .inl Mt)), (qy2, .inl (cI, 40, .inl Ms)), (qy3, .inl (cI, 40, .inl Mf)), (qy4, .inl (cI, 40, .inl Ml)), (qy5, .inl (cI, 20, .inl (upd Ht r29.toInt.toNat x65))), (qy6, .inl (cI, 20, .inl (upd Hu r29.toInt.toNat x80))), (qy7, .inl (cL, 40, .inr (.inl Tp)))] H := hP
          have hD : va_D A [(qy, .inr (4, [.ref qy1, .ref qy2, .ref qy3, .ref qy4, .int zM, .ref qy5, .ref qy6, .int x48, .ref qy7, .int zT, .long bg])), (qy1, .inl (cI, 40, .inl Mt)), (qy2, .inl (cI, 40, .inl Ms)), (qy3, .inl (cI, 40, .inl Mf)), (qy4, .inl (cI, 40, .inl Ml)), (qy5, .inl (cI, 20, .inl (upd Ht r29.toInt.toNat x65))), (qy6, .inl (cI, 20, .inl (upd Hu r29.toInt.toNat x80))), (qy7, .inl (cL, 40, .inr (.inl Tp)))] := hD
          refine lv_aload_n hx hb dX4_hold_82 rfl (lv_at hl 1 rfl) ?_
          refine va_get (D := G) (ci := 4) (v := .int x48) (C := RX4) (T := TX4) (N := 11) hx hb hts hiX4 hown hK hP 0 rfl rfl 7 (by decide) hf67 (fun _ h9 => h9) rfl dX4_hold_83 ?_
          exact W.iret (v := x48) hx hb hr (fun t ht hW => ⟨⟨x48, (x48, upd Ht r29.toInt.toNat x65, upd Hu r29.toInt.toNat x80), rfl, (by (try dsimp only); exact (by first | exact ⟨nh, hnH, Or.inr (Or.inl ⟨by omega, Or.inr ⟨by omega, by omega, rfl, rfl, rfl⟩⟩)⟩ | exact ⟨nh - 1, by omega, Or.inr (Or.inl ⟨by omega, Or.inl ⟨by omega, by omega, by omega, by rw [← hw29, ex65], by rw [← hw29, ex80]⟩⟩)⟩)), by rw [ht]; exact hP, hD⟩, hS.F ht⟩) hS.2.2 dX4_hold_86
    · have k21 : (r18.toInt : Int) = 0 := i_eq rfl (show ((0 : Int32)).toInt = 0 by decide) c21
      refine lv_bipush (v := (-2)) hx hb dX4_hold_24 (by decide) ?_
      exact W.iret (v := (-2)) hx hb hr (fun t ht hW => ⟨⟨(-2), (zH, Ht, Hu), rfl, (by (try dsimp only); exact ⟨nh, hnH, Or.inl ⟨by omega, by omega, rfl, rfl, rfl⟩⟩), by rw [ht]; exact hP, hD⟩, hS.F ht⟩) hS.2.2 dX4_hold_26

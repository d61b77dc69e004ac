set_option maxHeartbeats 1000000 in
set_option maxRecDepth 100000 in
theorem ct_X4_slope (l : Launch) (G : va_G) (cI cL : ClassId) (sz : Nat) (qy : Nat) (qy1 : Nat) (qy2 : Nat) (qy3 : Nat) (qy4 : Nat) (qy5 : Nat) (qy6 : Nat) (qy7 : Nat) (zM : Int32) (zH : Int32) (zT : Int32) (bg : Int64) (Mt : Nat → Int32) (Ms : Nat → Int32) (Mf : Nat → Int32) (Ml : Nat → Int32) (Ht : Nat → Int32) (Hu : Nat → Int32) (Tp : Nat → Int64) (p0 : Int32) (p1 : Int32) (p2 : Int32) (p3 : Int32) (nm : Nat) (hnM : zM.toInt = nm) (hOM : okM nm Mt Ms Mf Ml) (nh : Nat) (hnH : zH.toInt = nh) (hOH : okH nh Ht Hu) (nt : Nat) (hnT : zT.toInt = nt) (hOT : okT nt Tp) : Met l yX4_slope wsX4_slope ({ frames := 2, cells := 0, slots := 0, locals := 49 }) (va_Pc [.ref qy, .int p0, .int p1, .int p2, .int p3] (pre0 G cI cL [(qy, .inr (4, [.ref qy1, .ref qy2, .ref qy3, .ref qy4, .int zM, .ref qy5, .ref qy6, .int zH, .ref qy7, .int zT, .long bg])), (qy1, .inl (cI, 40, .inl Mt)), (qy2, .inl (cI, 40, .inl Ms)), (qy3, .inl (cI, 40, .inl Mf)), (qy4, .inl (cI, 40, .inl Ml)), (qy5, .inl (cI, 20, .inl Ht)), (qy6, .inl (cI, 20, .inl Hu)), (qy7, .inl (cL, 40, .inr (.inl Tp)))] sz)) (va_Qi (fun (r : Int32) (u : Int32 × (Nat → Int32) × (Nat → Int32) × (Nat → Int32) × (Nat → Int32)) => ∃ n' : Nat, u.1.toInt = n' ∧ pSlope nm Mt Ms Mf Ml p0 p1 p2 p3 r.toInt n' u.2.1 u.2.2.1 u.2.2.2.1 u.2.2.2.2) (fun (u : Int32 × (Nat → Int32) × (Nat → Int32) × (Nat → Int32) × (Nat → Int32)) t => va_P G vwCl [(qy, .inr (4, [.ref qy1, .ref qy2, .ref qy3, .ref qy4, .int u.1, .ref qy5, .ref qy6, .int zH, .ref qy7, .int zT, .long bg])), (qy1, .inl (cI, 40, .inl (u.2.1))), (qy2, .inl (cI, 40, .inl (u.2.2.1))), (qy3, .inl (cI, 40, .inl (u.2.2.2.1))), (qy4, .inl (cI, 40, .inl (u.2.2.2.2))), (qy5, .inl (cI, 20, .inl Ht)), (qy6, .inl (cI, 20, .inl Hu)), (qy7, .inl (cL, 40, .inr (.inl Tp)))] t.heap ∧ va_D (va_A [(qy, .inr (4, [.ref qy1, .ref qy2, .ref qy3, .ref qy4, .int zM, .ref qy5, .ref qy6, .int zH, .ref qy7, .int zT, .long bg])), (qy1, .inl (cI, 40, .inl Mt)), (qy2, .inl (cI, 40, .inl Ms)), (qy3, .inl (cI, 40, .inl Mf)), (qy4, .inl (cI, 40, .inl Ml)), (qy5, .inl (cI, 20, .inl Ht)), (qy6, .inl (cI, 20, .inl Hu)), (qy7, .inl (cL, 40, .inr (.inl Tp)))] sz) [(qy, .inr (4, [.ref qy1, .ref qy2, .ref qy3, .ref qy4, .int u.1, .ref qy5, .ref qy6, .int zH, .ref qy7, .int zT, .long bg])), (qy1, .inl (cI, 40, .inl (u.2.1))), (qy2, .inl (cI, 40, .inl (u.2.2.1))), (qy3, .inl (cI, 40, .inl (u.2.2.2.1))), (qy4, .inl (cI, 40, .inl (u.2.2.2.2))), (qy5, .inl (cI, 20, .inl Ht)), (qy6, .inl (cI, 20, .inl Hu)), (qy7, .inl (cL, 40, .inr (.inl Tp)))]) (va_A [(qy, .inr (4, [.ref qy1, .ref qy2, .ref qy3, .ref qy4, .int zM, .ref qy5, .ref qy6, .int zH, .ref qy7, .int zT, .long bg])), (qy1, .inl (cI, 40, .inl Mt)), (qy2, .inl (cI, 40, .inl Ms)), (qy3, .inl (cI, 40, .inl Mf)), (qy4, .inl (cI, 40, .inl Ml)), (qy5, .inl (cI, 20, .inl Ht)), (qy6, .inl (cI, 20, .inl Hu)), (qy7, .inl (cL, 40, .inr (.inl Tp)))] sz)) 0 0 (va_A [(qy, .inr (4, [.ref qy1, .ref qy2, .ref qy3, .ref qy4, .int zM, .ref qy5, .ref qy6, .int zH, .ref qy7, .int zT, .long bg])), (qy1, .inl (cI, 40, .inl Mt)), (qy2, .inl (cI, 40, .inl Ms)), (qy3, .inl (cI, 40, .inl Mf)), (qy4, .inl (cI, 40, .inl Ml)), (qy5, .inl (cI, 20, .inl Ht)), (qy6, .inl (cI, 20, .inl Hu)), (qy7, .inl (cL, 40, .inr (.inl Tp)))] sz) := by
  refine Met.ofW (cc := cX4_slope) (maxL := 5) (ret := (some .int)) (by decide) rfl ?_
  intro p e s m args below meth c s₁ B hml hv
  obtain ⟨rfl, hsz, hP, hK, hD0, hN⟩ := hv
  have hx := B.exec
  have hb := B.bytes
  have hr := B.returns
  have hts := atoms_spec (ws := wsX4_slope) B.pre
  have hown : s.vm.findClass RX4 = some m.cls := findClass_of_methodNamed B.named
  have hlocks := B.notSynchronized
  subst hsz
  have hD := hD0.self (sz := s.heap.size)
  generalize hAe : va_A [(qy, .inr (4, [.ref qy1, .ref qy2, .ref qy3, .ref qy4, .int zM, .ref qy5, .ref qy6, .int zH, .ref qy7, .int zT, .long bg])), (qy1, .inl (cI, 40, .inl Mt)), (qy2, .inl (cI, 40, .inl Ms)), (qy3, .inl (cI, 40, .inl Mf)), (qy4, .inl (cI, 40, .inl Ml)), (qy5, .inl (cI, 20, .inl Ht)), (qy6, .inl (cI, 20, .inl Hu)), (qy7, .inl (cL, 40, .inr (.inl Tp)))] s.heap.size = A at hD ⊢
  have hA : ∀ q : Nat, s.heap.size ≤ q → A q := fun q h => by rw [← hAe]; exact Or.inr h
  have hP : va_P G vwCl [(qy, .inr (4, [.ref qy1, .ref qy2, .ref qy3, .ref qy4, .int zM, .ref qy5, .ref qy6, .int zH, .ref qy7, .int zT, .long bg])), (qy1, .inl (cI, 40, .inl Mt)), (qy2, .inl (cI, 40, .inl Ms)), (qy3, .inl (cI, 40, .inl Mf)), (qy4, .inl (cI, 40, .inl Ml)), (qy5, .inl (cI, 20, .inl Ht)), (qy6, .inl (cI, 20, .inl Hu)), (qy7, .inl (cL, 40, .inr (.inl Tp)))] s.heap := hP
  have hl := lv_entry ([.ref qy, .int p0, .int p1, .int p2, .int p3]) (n := 5) (Nat.le_of_ble_eq_true rfl)
  rw [lg_entry_eq]
  generalize (lg_sl ([.ref qy, .int p0, .int p1, .int p2, .int p3]) ++ List.replicate (5 - (lg_sl ([.ref qy, .int p0, .int p1, .int p2, .int p3])).length) Slot.unset).toArray = ls at hl ⊢
  have hl : lv_has ls 5 [(0, .ref qy), (1, .int p0), (2, .int p1), (3, .int p2), (4, .int p3)] := hl
  have zim2 : ((-2 : Int32)).toInt = -2 := by decide
  have zi1000000 : ((1000000 : Int32)).toInt = 1000000 := by decide
  have zl0 : ((0 : Int64)).toInt = 0 := by decide
  have zl1 : ((1 : Int64)).toInt = 1 := by decide
  have zl2000 : ((2000 : Int64)).toInt = 2000 := by decide
  have zl999999 : ((999999 : Int64)).toInt = 999999 := by decide
  have zl1000000 : ((1000000 : Int64)).toInt = 1000000 := by decide
  refine w_h (A := A) hP (fun H locs hP hS => ?_)
  have hn40 := hOM.1
  have hrg := hOM.2.1
  have hn20 := hOH.1
  have hrh := hOH.2.1
  have hn41 := hOT.1
  have hrt := hOT.2.1
  have zz0 : ((0 : Int32)).toInt = 0 := by decide
  refine lv_iload_n hx hb dX4_slope_0 rfl (lv_at hl 1 rfl) ?_
  refine lv_i2l hx hb dX4_slope_1 rfl ?_
  refine lv_topl (fun x1 ex1 => ?_)
  have tx1 : x1.toInt = p0.toInt := by rw [ex1]; exact tc_i2l rfl
  refine lv_lconst (v := 0) hx hb dX4_slope_2 (by decide) ?_
  refine lv_ldc2 (v := 999999) hx hb hown (hts (.constantLong RX4 47 999999) (by decide +kernel)) dX4_slope_3 ?_
  have hPc := hP.sub (ws' := ([] : va_W)) [] rfl
  have hDc := hD.sub (ws' := ([] : va_W)) [] (by decide) rfl
  have hcc := (ct_X4_in l G cI cL H.size x1 0 999999)
  refine ro_calli (va_runS (As := [.long x1, .long 0, .long 999999]) (rest := []) ⟨hx, hb, hml, hown, hts⟩ hcc (va_cwS 3 hts gX4_slope_X4_in rfl rfl rfl (by decide +kernel) ⟨Nat.le_of_ble_eq_true rfl, Nat.le_of_ble_eq_true rfl⟩) ⟨pre_blind, pre_pass hK hN hPc hDc⟩ rfl rfl hl.1 rfl (lv_room (Nat.le_of_ble_eq_true rfl)) dX4_slope_6 ⟨Nat.le_of_ble_eq_true rfl, Nat.le_of_ble_eq_true rfl⟩) hP hD hS hA [] rfl (fun r6 H locs hw6 hP hS => ?_)
  try dsimp only at hw6
  refine lv_if_eq (tgt := 57) hx hb dX4_slope_9 (by decide) (fun c9 => ?_) (fun c9 => ?_)
  · have k9 : (r6.toInt : Int) = 0 := i_eq rfl (show ((0 : Int32)).toInt = 0 by decide) c9
    refine lv_bipush (v := (-2)) hx hb dX4_slope_57 (by decide) ?_
    exact W.iret (v := (-2)) hx hb hr (fun t ht hW => ⟨⟨(-2), (zM, Mt, Ms, Mf, Ml), rfl, (by (try dsimp only); exact ⟨nm, hnM, Or.inl ⟨by omega, by omega, ⟨rfl, rfl, rfl, rfl, rfl⟩⟩⟩), by rw [ht]; exact hP, hD⟩, hS.F ht⟩) hS.2.2 dX4_slope_59
  · have k9 : (r6.toInt : Int) ≠ 0 := i_ne rfl (show ((0 : Int32)).toInt = 0 by decide) c9
    refine lv_iload_n hx hb dX4_slope_12 rfl (lv_at hl 2 rfl) ?_
    refine lv_i2l hx hb dX4_slope_13 rfl ?_
    refine lv_topl (fun x13 ex13 => ?_)
    have tx13 : x13.toInt = p1.toInt := by rw [ex13]; exact tc_i2l rfl
    refine lv_lconst (v := 1) hx hb dX4_slope_14 (by decide) ?_
    refine lv_ldc2 (v := 2000) hx hb hown (hts (.constantLong RX4 59 2000) (by decide +kernel)) dX4_slope_15 ?_
    have hPc := hP.sub (ws' := ([] : va_W)) [] rfl
    have hDc := hD.sub (ws' := ([] : va_W)) [] (by decide) rfl
    have hcc := (ct_X4_in l G cI cL H.size x13 1 2000)
    refine ro_calli (va_runS (As := [.long x13, .long 1, .long 2000]) (rest := []) ⟨hx, hb, hml, hown, hts⟩ hcc (va_cwS 3 hts gX4_slope_X4_in rfl rfl rfl (by decide +kernel) ⟨Nat.le_of_ble_eq_true rfl, Nat.le_of_ble_eq_true rfl⟩) ⟨pre_blind, pre_pass hK hN hPc hDc⟩ rfl rfl hl.1 rfl (lv_room (Nat.le_of_ble_eq_true rfl)) dX4_slope_18 ⟨Nat.le_of_ble_eq_true rfl, Nat.le_of_ble_eq_true rfl⟩) hP hD hS hA [] rfl (fun r18 H locs hw18 hP hS => ?_)
    try dsimp only at hw18
    refine lv_if_eq (tgt := 57) hx hb dX4_slope_21 (by decide) (fun c21 => ?_) (fun c21 => ?_)
    · have k21 : (r18.toInt : Int) = 0 := i_eq rfl (show ((0 : Int32)).toInt = 0 by decide) c21
      refine lv_bipush (v := (-2)) hx hb dX4_slope_57 (by decide) ?_
      exact W.iret (v := (-2)) hx hb hr (fun t ht hW => ⟨⟨(-2), (zM, Mt, Ms, Mf, Ml), rfl, (by (try dsimp only); exact ⟨nm, hnM, Or.inl ⟨by omega, by omega, ⟨rfl, rfl, rfl, rfl, rfl⟩⟩⟩), by rw [ht]; exact hP, hD⟩, hS.F ht⟩) hS.2.2 dX4_slope_59
    · have k21 : (r18.toInt : Int) ≠ 0 := i_ne rfl (show ((0 : Int32)).toInt = 0 by decide) c21
      refine lv_iload_n hx hb dX4_slope_24 rfl (lv_at hl 3 rfl) ?_
      refine lv_i2l hx hb dX4_slope_25 rfl ?_
      refine lv_topl (fun x25 ex25 => ?_)
      have tx25 : x25.toInt = p2.toInt := by rw [ex25]; exact tc_i2l rfl
      refine lv_lconst (v := 1) hx hb dX4_slope_26 (by decide) ?_
      refine lv_ldc2 (v := 1000000) hx hb hown (hts (.constantLong RX4 53 1000000) (by decide +kernel)) dX4_slope_27 ?_
      have hPc := hP.sub (ws' := ([] : va_W)) [] rfl
      have hDc := hD.sub (ws' := ([] : va_W)) [] (by decide) rfl
      have hcc := (ct_X4_in l G cI cL H.size x25 1 1000000)
      refine ro_calli (va_runS (As := [.long x25, .long 1, .long 1000000]) (rest := []) ⟨hx, hb, hml, hown, hts⟩ hcc (va_cwS 3 hts gX4_slope_X4_in rfl rfl rfl (by decide +kernel) ⟨Nat.le_of_ble_eq_true rfl, Nat.le_of_ble_eq_true rfl⟩) ⟨pre_blind, pre_pass hK hN hPc hDc⟩ rfl rfl hl.1 rfl (lv_room (Nat.le_of_ble_eq_true rfl)) dX4_slope_30 ⟨Nat.le_of_ble_eq_true rfl, Nat.le_of_ble_eq_true rfl⟩) hP hD hS hA [] rfl (fun r30 H locs hw30 hP hS => ?_)
      try dsimp only at hw30
      refine lv_if_eq (tgt := 57) hx hb dX4_slope_33 (by decide) (fun c33 => ?_) (fun c33 => ?_)
      · have k33 : (r30.toInt : Int) = 0 := i_eq rfl (show ((0 : Int32)).toInt = 0 by decide) c33
        refine lv_bipush (v := (-2)) hx hb dX4_slope_57 (by decide) ?_
        exact W.iret (v := (-2)) hx hb hr (fun t ht hW => ⟨⟨(-2), (zM, Mt, Ms, Mf, Ml), rfl, (by (try dsimp only); exact ⟨nm, hnM, Or.inl ⟨by omega, by omega, ⟨rfl, rfl, rfl, rfl, rfl⟩⟩⟩), by rw [ht]; exact hP, hD⟩, hS.F ht⟩) hS.2.2 dX4_slope_59
      · have k33 : (r30.toInt : Int) ≠ 0 := i_ne rfl (show ((0 : Int32)).toInt = 0 by decide) c33
        refine lv_iload hx hb dX4_slope_36 (lv_at hl 4 rfl) ?_
        refine lv_i2l hx hb dX4_slope_38 rfl ?_
        refine lv_topl (fun x38 ex38 => ?_)
        have tx38 : x38.toInt = p3.toInt := by rw [ex38]; exact tc_i2l rfl
        refine lv_lconst (v := 1) hx hb dX4_slope_39 (by decide) ?_
        refine lv_ldc2 (v := 1000000) hx hb hown (hts (.constantLong RX4 53 1000000) (by decide +kernel)) dX4_slope_40 ?_
        have hPc := hP.sub (ws' := ([] : va_W)) [] rfl
        have hDc := hD.sub (ws' := ([] : va_W)) [] (by decide) rfl
        have hcc := (ct_X4_in l G cI cL H.size x38 1 1000000)
        refine ro_calli (va_runS (As := [.long x38, .long 1, .long 1000000]) (rest := []) ⟨hx, hb, hml, hown, hts⟩ hcc (va_cwS 3 hts gX4_slope_X4_in rfl rfl rfl (by decide +kernel) ⟨Nat.le_of_ble_eq_true rfl, Nat.le_of_ble_eq_true rfl⟩) ⟨pre_blind, pre_pass hK hN hPc hDc⟩ rfl rfl hl.1 rfl (lv_room (Nat.le_of_ble_eq_true rfl)) dX4_slope_43 ⟨Nat.le_of_ble_eq_true rfl, Nat.le_of_ble_eq_true rfl⟩) hP hD hS hA [] rfl (fun r43 H locs hw43 hP hS => ?_)
        try dsimp only at hw43
        refine lv_if_eq (tgt := 57) hx hb dX4_slope_46 (by decide) (fun c46 => ?_) (fun c46 => ?_)
        · have k46 : (r43.toInt : Int) = 0 := i_eq rfl (show ((0 : Int32)).toInt = 0 by decide) c46
          refine lv_bipush (v := (-2)) hx hb dX4_slope_57 (by decide) ?_
          exact W.iret (v := (-2)) hx hb hr (fun t ht hW => ⟨⟨(-2), (zM, Mt, Ms, Mf, Ml), rfl, (by (try dsimp only); exact ⟨nm, hnM, Or.inl ⟨by omega, by omega, ⟨rfl, rfl, rfl, rfl, rfl⟩⟩⟩), by rw [ht]; exact hP, hD⟩, hS.F ht⟩) hS.2.2 dX4_slope_59
        · have k46 : (r43.toInt : Int) ≠ 0 := i_ne rfl (show ((0 : Int32)).toInt = 0 by decide) c46
          refine lv_iload_n hx hb dX4_slope_49 rfl (lv_at hl 1 rfl) ?_
          refine lv_iload_n hx hb dX4_slope_50 rfl (lv_at hl 2 rfl) ?_
          refine lv_iadd hx hb dX4_slope_51 ?_
          refine lv_topi (fun x51 ex51 => ?_)
          have tx51 : x51.toInt = p0.toInt + p1.toInt := by rw [ex51]; exact ti_add rfl rfl (by omega) (by omega)
          refine lv_ldc (v := 1000000) hx hb hown (hts (.constant RX4 61 1000000) (by decide +kernel)) dX4_slope_52 ?_
          refine lv_icmp_le (tgt := 60) hx hb dX4_slope_54 (by decide) (fun c54 => ?_) (fun c54 => ?_)
          · have k54 : (x51.toInt : Int) ≤ 1000000 := i_le rfl (show ((1000000 : Int32)).toInt = 1000000 by decide) c54
            refine lv_aload_n hx hb dX4_slope_60 rfl (lv_at hl 0 rfl) ?_
            refine lv_iload_n hx hb dX4_slope_61 rfl (lv_at hl 1 rfl) ?_
            refine lv_iload_n hx hb dX4_slope_62 rfl (lv_at hl 2 rfl) ?_
            refine lv_iload_n hx hb dX4_slope_63 rfl (lv_at hl 3 rfl) ?_
            refine lv_iload hx hb dX4_slope_64 (lv_at hl 4 rfl) ?_
            have hPc := hP.sub (ws' := [(qy, .inr (4, [.ref qy1, .ref qy2, .ref qy3, .ref qy4, .int zM, .ref qy5, .ref qy6, .int zH, .ref qy7, .int zT, .long bg])), (qy1, .inl (cI, 40, .inl Mt)), (qy2, .inl (cI, 40, .inl Ms)), (qy3, .inl (cI, 40, .inl Mf)), (qy4, .inl (cI, 40, .inl Ml)), (qy5, .inl (cI, 20, .inl Ht)), (qy6, .inl (cI, 20, .inl Hu)), (qy7, .inl (cL, 40, .inr (.inl Tp)))]) [0, 1, 2, 3, 4, 5, 6, 7] rfl
            have hDc := hD.sub (ws' := [(qy, .inr (4, [.ref qy1, .ref qy2, .ref qy3, .ref qy4, .int zM, .ref qy5, .ref qy6, .int zH, .ref qy7, .int zT, .long bg])), (qy1, .inl (cI, 40, .inl Mt)), (qy2, .inl (cI, 40, .inl Ms)), (qy3, .inl (cI, 40, .inl Mf)), (qy4, .inl (cI, 40, .inl Ml)), (qy5, .inl (cI, 20, .inl Ht)), (qy6, .inl (cI, 20, .inl Hu)), (qy7, .inl (cL, 40, .inr (.inl Tp)))]) [0, 1, 2, 3, 4, 5, 6, 7] (by decide) rfl
            have hcc := (ct_X4_put l G cI cL H.size qy qy1 qy2 qy3 qy4 qy5 qy6 qy7 zM zH zT bg Mt Ms Mf Ml Ht Hu Tp p0 p1 p2 p3 nm hnM hOM nh hnH hOH nt hnT hOT (by omega) (by omega))
            refine rw_calli (wr := ([] : va_W)) (va_runV (As := [.int p0, .int p1, .int p2, .int p3]) (rest := []) ⟨hx, hb, hml, hown, hts⟩ hcc (cwV 4 hts gX4_slope_X4_put rfl rfl rfl (by decide +kernel) ⟨Nat.le_of_ble_eq_true rfl, Nat.le_of_ble_eq_true rfl⟩) ⟨pre_blind, va_recv hK hPc (ci := 4) (q0 := 0) rfl rfl, pre_pass hK hN hPc hDc⟩ rfl rfl hl.1 rfl (lv_room (Nat.le_of_ble_eq_true rfl)) dX4_slope_66 ⟨Nat.le_of_ble_eq_true rfl, Nat.le_of_ble_eq_true rfl⟩) hP hD hS hA [0, 1, 2, 3, 4, 5, 6, 7] [] rfl rfl (by decide) (by decide) (fun r66 u66 H locs hw66 hP hD hS => ?_)
            obtain ⟨zM66, Mt66, Ms66, Mf66, Ml66⟩ := u66
            have hP : va_P G vwCl [(qy, .inr (4, [.ref qy1, .ref qy2, .ref qy3, .ref qy4, .int zM66, .ref qy5, .ref qy6, .int zH, .ref qy7, .int zT, .long bg])), (qy1, .inl (cI, 40, .inl Mt66)), (qy2, .inl (cI, 40, .inl Ms66)), (qy3, .inl (cI, 40, .inl Mf66)), (qy4, .inl (cI, 40, .inl Ml66)), (qy5, .inl (cI, 20, .inl Ht)), (qy6, .inl (cI, 20, .inl Hu)), (qy7, .inl (cL, 40, .inr (.inl Tp)))] H := hP.sub [0, 1, 2, 3, 4, 5, 6, 7] rfl
            have hD : va_D A [(qy, .inr (4, [.ref qy1, .ref qy2, .ref qy3, .ref qy4, .int zM66, .ref qy5, .ref qy6, .int zH, .ref qy7, .int zT, .long bg])), (qy1, .inl (cI, 40, .inl Mt66)), (qy2, .inl (cI, 40, .inl Ms66)), (qy3, .inl (cI, 40, .inl Mf66)), (qy4, .inl (cI, 40, .inl Ml66)), (qy5, .inl (cI, 20, .inl Ht)), (qy6, .inl (cI, 20, .inl Hu)), (qy7, .inl (cL, 40, .inr (.inl Tp)))] := hD.sub [0, 1, 2, 3, 4, 5, 6, 7] (by decide) rfl
            try dsimp only at hw66
            obtain ⟨n66, a66, b66⟩ := hw66
            exact W.iret (v := r66) hx hb hr (fun t ht hW => ⟨⟨r66, (zM66, Mt66, Ms66, Mf66, Ml66), rfl, (by (try dsimp only); exact ⟨n66, a66, Or.inr ⟨by omega, b66⟩⟩), by rw [ht]; exact hP, hD⟩, hS.F ht⟩) hS.2.2 dX4_slope_69
          · have k54 : (1000000 : Int) < x51.toInt := i_nle rfl (show ((1000000 : Int32)).toInt = 1000000 by decide) c54
            refine lv_bipush (v := (-2)) hx hb dX4_slope_57 (by decide) ?_
            exact W.iret (v := (-2)) hx hb hr (fun t ht hW => ⟨⟨(-2), (zM, Mt, Ms, Mf, Ml), rfl, (by (try dsimp only); exact ⟨nm, hnM, Or.inl ⟨by omega, by omega, ⟨rfl, rfl, rfl, rfl, rfl⟩⟩⟩), by rw [ht]; exact hP, hD⟩, hS.F ht⟩) hS.2.2 dX4_slope_59

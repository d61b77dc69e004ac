set_option maxHeartbeats 1000000 in
set_option maxRecDepth 100000 in
theorem ct_X4_modulate (l : Launch) (G : va_G) (cI cL : ClassId) (sz : Nat) (qy : Nat) (qy1 : Nat) (qy2 : Nat) (qy3 : Nat) (qy4 : Nat) (qy5 : Nat) (qy6 : Nat) (qy7 : Nat) (zM : Int32) (zH : Int32) (zT : Int32) (bg : Int64) (Mt : Nat → Int32) (Ms : Nat → Int32) (Mf : Nat → Int32) (Ml : Nat → Int32) (Ht : Nat → Int32) (Hu : Nat → Int32) (Tp : Nat → Int64) (p0 : Int32) (p1 : Int32) (p2 : Int32) (nm : Nat) (hnM : zM.toInt = nm) (hOM : okM nm Mt Ms Mf Ml) (nh : Nat) (hnH : zH.toInt = nh) (hOH : okH nh Ht Hu) (nt : Nat) (hnT : zT.toInt = nt) (hOT : okT nt Tp) : Met l yX4_modulate wsX4_modulate ({ frames := 3, cells := 0, slots := 0, locals := 73 }) (va_Pc [.ref qy, .int p0, .int p1, .int p2] (pre0 G cI cL [(qy, .inr (4, [.ref qy1, .ref qy2, .ref qy3, .ref qy4, .int zM, .ref qy5, .ref qy6, .int zH, .ref qy7, .int zT, .long bg])), (qy1, .inl (cI, 40, .inl Mt)), (qy2, .inl (cI, 40, .inl Ms)), (qy3, .inl (cI, 40, .inl Mf)), (qy4, .inl (cI, 40, .inl Ml)), (qy5, .inl (cI, 20, .inl Ht)), (qy6, .inl (cI, 20, .inl Hu)), (qy7, .inl (cL, 40, .inr (.inl Tp)))] sz)) (va_Qi (fun (r : Int32) (u : Int32 × (Nat → Int32) × (Nat → Int32) × (Nat → Int32) × (Nat → Int32)) => ∃ n' : Nat, u.1.toInt = n' ∧ pMod (paceF Mt Ms Mf Ml nm) nm Mt Ms Mf Ml p0 p1 p2 r.toInt n' u.2.1 u.2.2.1 u.2.2.2.1 u.2.2.2.2) (fun (u : Int32 × (Nat → Int32) × (Nat → Int32) × (Nat → Int32) × (Nat → Int32)) t => va_P G vwCl [(qy, .inr (4, [.ref qy1, .ref qy2, .ref qy3, .ref qy4, .int u.1, .ref qy5, .ref qy6, .int zH, .ref qy7, .int zT, .long bg])), (qy1, .inl (cI, 40, .inl (u.2.1))), (qy2, .inl (cI, 40, .inl (u.2.2.1))), (qy3, .inl (cI, 40, .inl (u.2.2.2.1))), (qy4, .inl (cI, 40, .inl (u.2.2.2.2))), (qy5, .inl (cI, 20, .inl Ht)), (qy6, .inl (cI, 20, .inl Hu)), (qy7, .inl (cL, 40, .inr (.inl Tp)))] t.heap ∧ va_D (va_A [(qy, .inr (4, [.ref qy1, .ref qy2, .ref qy3, .ref qy4, .int zM, .ref qy5, .ref qy6, .int zH, .ref qy7, .int zT, .long bg])), (qy1, .inl (cI, 40, .inl Mt)), (qy2, .inl (cI, 40, .inl Ms)), (qy3, .inl (cI, 40, .inl Mf)), (qy4, .inl (cI, 40, .inl Ml)), (qy5, .inl (cI, 20, .inl Ht)), (qy6, .inl (cI, 20, .inl Hu)), (qy7, .inl (cL, 40, .inr (.inl Tp)))] sz) [(qy, .inr (4, [.ref qy1, .ref qy2, .ref qy3, .ref qy4, .int u.1, .ref qy5, .ref qy6, .int zH, .ref qy7, .int zT, .long bg])), (qy1, .inl (cI, 40, .inl (u.2.1))), (qy2, .inl (cI, 40, .inl (u.2.2.1))), (qy3, .inl (cI, 40, .inl (u.2.2.2.1))), (qy4, .inl (cI, 40, .inl (u.2.2.2.2))), (qy5, .inl (cI, 20, .inl Ht)), (qy6, .inl (cI, 20, .inl Hu)), (qy7, .inl (cL, 40, .inr (.inl Tp)))]) (va_A [(qy, .inr (4, [.ref qy1, .ref qy2, .ref qy3, .ref qy4, .int zM, .ref qy5, .ref qy6, .int zH, .ref qy7, .int zT, .long bg])), (qy1, .inl (cI, 40, .inl Mt)), (qy2, .inl (cI, 40, .inl Ms)), (qy3, .inl (cI, 40, .inl Mf)), (qy4, .inl (cI, 40, .inl Ml)), (qy5, .inl (cI, 20, .inl Ht)), (qy6, .inl (cI, 20, .inl Hu)), (qy7, .inl (cL, 40, .inr (.inl Tp)))] sz)) 0 0 (va_A [(qy, .inr (4, [.ref qy1, .ref qy2, .ref qy3, .ref qy4, .int zM, .ref qy5, .ref qy6, .int zH, .ref qy7, .int zT, .long bg])), (qy1, .inl (cI, 40, .inl Mt)), (qy2, .inl (cI, 40, .inl Ms)), (qy3, .inl (cI, 40, .inl Mf)), (qy4, .inl (cI, 40, .inl Ml)), (qy5, .inl (cI, 20, .inl Ht)), (qy6, .inl (cI, 20, .inl Hu)), (qy7, .inl (cL, 40, .inr (.inl Tp)))] sz) := by
  refine Met.ofW (cc := cX4_modulate) (maxL := 7) (ret := (some .int)) (by decide) rfl ?_
  intro p e s m args below meth c s₁ B hml hv
  obtain ⟨rfl, hsz, hP, hK, hD0, hN⟩ := hv
  have hx := B.exec
  have hb := B.bytes
  have hr := B.returns
  have hts := atoms_spec (ws := wsX4_modulate) B.pre
  have hown : s.vm.findClass RX4 = some m.cls := findClass_of_methodNamed B.named
  have hlocks := B.notSynchronized
  subst hsz
  have hD := hD0.self (sz := s.heap.size)
  generalize hAe : va_A [(qy, .inr (4, [.ref qy1, .ref qy2, .ref qy3, .ref qy4, .int zM, .ref qy5, .ref qy6, .int zH, .ref qy7, .int zT, .long bg])), (qy1, .inl (cI, 40, .inl Mt)), (qy2, .inl (cI, 40, .inl Ms)), (qy3, .inl (cI, 40, .inl Mf)), (qy4, .inl (cI, 40, .inl Ml)), (qy5, .inl (cI, 20, .inl Ht)), (qy6, .inl (cI, 20, .inl Hu)), (qy7, .inl (cL, 40, .inr (.inl Tp)))] s.heap.size = A at hD ⊢
  have hA : ∀ q : Nat, s.heap.size ≤ q → A q := fun q h => by rw [← hAe]; exact Or.inr h
  have hP : va_P G vwCl [(qy, .inr (4, [.ref qy1, .ref qy2, .ref qy3, .ref qy4, .int zM, .ref qy5, .ref qy6, .int zH, .ref qy7, .int zT, .long bg])), (qy1, .inl (cI, 40, .inl Mt)), (qy2, .inl (cI, 40, .inl Ms)), (qy3, .inl (cI, 40, .inl Mf)), (qy4, .inl (cI, 40, .inl Ml)), (qy5, .inl (cI, 20, .inl Ht)), (qy6, .inl (cI, 20, .inl Hu)), (qy7, .inl (cL, 40, .inr (.inl Tp)))] s.heap := hP
  have hl := lv_entry ([.ref qy, .int p0, .int p1, .int p2]) (n := 7) (Nat.le_of_ble_eq_true rfl)
  rw [lg_entry_eq]
  generalize (lg_sl ([.ref qy, .int p0, .int p1, .int p2]) ++ List.replicate (7 - (lg_sl ([.ref qy, .int p0, .int p1, .int p2])).length) Slot.unset).toArray = ls at hl ⊢
  have hl : lv_has ls 7 [(0, .ref qy), (1, .int p0), (2, .int p1), (3, .int p2)] := hl
  have zim3 : ((-3 : Int32)).toInt = -3 := by decide
  have zim2 : ((-2 : Int32)).toInt = -2 := by decide
  have zi0 : ((0 : Int32)).toInt = 0 := by decide
  have zi1 : ((1 : Int32)).toInt = 1 := by decide
  have zl1 : ((1 : Int64)).toInt = 1 := by decide
  have zl1000 : ((1000 : Int64)).toInt = 1000 := by decide
  have zl999999 : ((999999 : Int64)).toInt = 999999 := by decide
  have zl1000000 : ((1000000 : Int64)).toInt = 1000000 := by decide
  refine w_h (A := A) hP (fun H locs hP hS => ?_)
  have hn40 := hOM.1
  have hrg := hOM.2.1
  have hn20 := hOH.1
  have hrh := hOH.2.1
  have hn41 := hOT.1
  have hrt := hOT.2.1
  have zz0 : ((0 : Int32)).toInt = 0 := by decide
  refine lv_iload_n hx hb dX4_modulate_0 rfl (lv_at hl 1 rfl) ?_
  refine lv_i2l hx hb dX4_modulate_1 rfl ?_
  refine lv_topl (fun x1 ex1 => ?_)
  have tx1 : x1.toInt = p0.toInt := by rw [ex1]; exact tc_i2l rfl
  refine lv_lconst (v := 1) hx hb dX4_modulate_2 (by decide) ?_
  refine lv_ldc2 (v := 999999) hx hb hown (hts (.constantLong RX4 47 999999) (by decide +kernel)) dX4_modulate_3 ?_
  have hPc := hP.sub (ws' := ([] : va_W)) [] rfl
  have hDc := hD.sub (ws' := ([] : va_W)) [] (by decide) rfl
  have hcc := (ct_X4_in l G cI cL H.size x1 1 999999)
  refine ro_calli (va_runS (As := [.long x1, .long 1, .long 999999]) (rest := []) ⟨hx, hb, hml, hown, hts⟩ hcc (va_cwS 3 hts gX4_modulate_X4_in rfl rfl rfl (by decide +kernel) ⟨Nat.le_of_ble_eq_true rfl, Nat.le_of_ble_eq_true rfl⟩) ⟨pre_blind, pre_pass hK hN hPc hDc⟩ rfl rfl hl.1 rfl (lv_room (Nat.le_of_ble_eq_true rfl)) dX4_modulate_6 ⟨Nat.le_of_ble_eq_true rfl, Nat.le_of_ble_eq_true rfl⟩) hP hD hS hA [] rfl (fun r6 H locs hw6 hP hS => ?_)
  try dsimp only at hw6
  refine lv_if_eq (tgt := 36) hx hb dX4_modulate_9 (by decide) (fun c9 => ?_) (fun c9 => ?_)
  · have k9 : (r6.toInt : Int) = 0 := i_eq rfl (show ((0 : Int32)).toInt = 0 by decide) c9
    refine lv_bipush (v := (-2)) hx hb dX4_modulate_36 (by decide) ?_
    exact W.iret (v := (-2)) hx hb hr (fun t ht hW => ⟨⟨(-2), (zM, Mt, Ms, Mf, Ml), rfl, (by (try dsimp only); exact ⟨nm, hnM, Or.inl ⟨by omega, by omega, ⟨rfl, rfl, rfl, rfl, rfl⟩⟩⟩), by rw [ht]; exact hP, hD⟩, hS.F ht⟩) hS.2.2 dX4_modulate_38
  · have k9 : (r6.toInt : Int) ≠ 0 := i_ne rfl (show ((0 : Int32)).toInt = 0 by decide) c9
    refine lv_iload_n hx hb dX4_modulate_12 rfl (lv_at hl 2 rfl) ?_
    refine lv_i2l hx hb dX4_modulate_13 rfl ?_
    refine lv_topl (fun x13 ex13 => ?_)
    have tx13 : x13.toInt = p1.toInt := by rw [ex13]; exact tc_i2l rfl
    refine lv_lconst (v := 1) hx hb dX4_modulate_14 (by decide) ?_
    refine lv_ldc2 (v := 1000) hx hb hown (hts (.constantLong RX4 62 1000) (by decide +kernel)) dX4_modulate_15 ?_
    have hPc := hP.sub (ws' := ([] : va_W)) [] rfl
    have hDc := hD.sub (ws' := ([] : va_W)) [] (by decide) rfl
    have hcc := (ct_X4_in l G cI cL H.size x13 1 1000)
    refine ro_calli (va_runS (As := [.long x13, .long 1, .long 1000]) (rest := []) ⟨hx, hb, hml, hown, hts⟩ hcc (va_cwS 3 hts gX4_modulate_X4_in rfl rfl rfl (by decide +kernel) ⟨Nat.le_of_ble_eq_true rfl, Nat.le_of_ble_eq_true rfl⟩) ⟨pre_blind, pre_pass hK hN hPc hDc⟩ rfl rfl hl.1 rfl (lv_room (Nat.le_of_ble_eq_true rfl)) dX4_modulate_18 ⟨Nat.le_of_ble_eq_true rfl, Nat.le_of_ble_eq_true rfl⟩) hP hD hS hA [] rfl (fun r18 H locs hw18 hP hS => ?_)
    try dsimp only at hw18
    refine lv_if_eq (tgt := 36) hx hb dX4_modulate_21 (by decide) (fun c21 => ?_) (fun c21 => ?_)
    · have k21 : (r18.toInt : Int) = 0 := i_eq rfl (show ((0 : Int32)).toInt = 0 by decide) c21
      refine lv_bipush (v := (-2)) hx hb dX4_modulate_36 (by decide) ?_
      exact W.iret (v := (-2)) hx hb hr (fun t ht hW => ⟨⟨(-2), (zM, Mt, Ms, Mf, Ml), rfl, (by (try dsimp only); exact ⟨nm, hnM, Or.inl ⟨by omega, by omega, ⟨rfl, rfl, rfl, rfl, rfl⟩⟩⟩), by rw [ht]; exact hP, hD⟩, hS.F ht⟩) hS.2.2 dX4_modulate_38
    · have k21 : (r18.toInt : Int) ≠ 0 := i_ne rfl (show ((0 : Int32)).toInt = 0 by decide) c21
      refine lv_iload_n hx hb dX4_modulate_24 rfl (lv_at hl 3 rfl) ?_
      refine lv_i2l hx hb dX4_modulate_25 rfl ?_
      refine lv_topl (fun x25 ex25 => ?_)
      have tx25 : x25.toInt = p2.toInt := by rw [ex25]; exact tc_i2l rfl
      refine lv_lconst (v := 1) hx hb dX4_modulate_26 (by decide) ?_
      refine lv_ldc2 (v := 1000) hx hb hown (hts (.constantLong RX4 62 1000) (by decide +kernel)) dX4_modulate_27 ?_
      have hPc := hP.sub (ws' := ([] : va_W)) [] rfl
      have hDc := hD.sub (ws' := ([] : va_W)) [] (by decide) rfl
      have hcc := (ct_X4_in l G cI cL H.size x25 1 1000)
      refine ro_calli (va_runS (As := [.long x25, .long 1, .long 1000]) (rest := []) ⟨hx, hb, hml, hown, hts⟩ hcc (va_cwS 3 hts gX4_modulate_X4_in rfl rfl rfl (by decide +kernel) ⟨Nat.le_of_ble_eq_true rfl, Nat.le_of_ble_eq_true rfl⟩) ⟨pre_blind, pre_pass hK hN hPc hDc⟩ rfl rfl hl.1 rfl (lv_room (Nat.le_of_ble_eq_true rfl)) dX4_modulate_30 ⟨Nat.le_of_ble_eq_true rfl, Nat.le_of_ble_eq_true rfl⟩) hP hD hS hA [] rfl (fun r30 H locs hw30 hP hS => ?_)
      try dsimp only at hw30
      refine lv_if_ne (tgt := 39) hx hb dX4_modulate_33 (by decide) (fun c33 => ?_) (fun c33 => ?_)
      · have k33 : (r30.toInt : Int) ≠ 0 := i_ne rfl (show ((0 : Int32)).toInt = 0 by decide) c33
        refine lv_aload_n hx hb dX4_modulate_39 rfl (lv_at hl 0 rfl) ?_
        refine lv_iload_n hx hb dX4_modulate_40 rfl (lv_at hl 1 rfl) ?_
        refine lv_iconst (v := 1) hx hb dX4_modulate_41 (by decide) ?_
        refine lv_isub hx hb dX4_modulate_42 ?_
        refine lv_topi (fun x42 ex42 => ?_)
        have tx42 : x42.toInt = p0.toInt - 1 := by rw [ex42]; exact ti_sub rfl (show ((1 : Int32)).toInt = 1 by decide) (by omega) (by omega)
        have hPc := hP.sub (ws' := [(qy, .inr (4, [.ref qy1, .ref qy2, .ref qy3, .ref qy4, .int zM, .ref qy5, .ref qy6, .int zH, .ref qy7, .int zT, .long bg])), (qy1, .inl (cI, 40, .inl Mt)), (qy2, .inl (cI, 40, .inl Ms)), (qy3, .inl (cI, 40, .inl Mf)), (qy4, .inl (cI, 40, .inl Ml)), (qy5, .inl (cI, 20, .inl Ht)), (qy6, .inl (cI, 20, .inl Hu)), (qy7, .inl (cL, 40, .inr (.inl Tp)))]) [0, 1, 2, 3, 4, 5, 6, 7] rfl
        have hDc := hD.sub (ws' := [(qy, .inr (4, [.ref qy1, .ref qy2, .ref qy3, .ref qy4, .int zM, .ref qy5, .ref qy6, .int zH, .ref qy7, .int zT, .long bg])), (qy1, .inl (cI, 40, .inl Mt)), (qy2, .inl (cI, 40, .inl Ms)), (qy3, .inl (cI, 40, .inl Mf)), (qy4, .inl (cI, 40, .inl Ml)), (qy5, .inl (cI, 20, .inl Ht)), (qy6, .inl (cI, 20, .inl Hu)), (qy7, .inl (cL, 40, .inr (.inl Tp)))]) [0, 1, 2, 3, 4, 5, 6, 7] (by decide) rfl
        have hcc := (ct_X4_lasts l G cI cL H.size qy qy1 qy2 qy3 qy4 qy5 qy6 qy7 zM zH zT bg Mt Ms Mf Ml Ht Hu Tp x42 nm hnM hOM nh hnH hOH nt hnT hOT)
        refine ro_calli (va_runV (As := [.int x42]) (rest := []) ⟨hx, hb, hml, hown, hts⟩ hcc (cwV 1 hts gX4_modulate_X4_lasts rfl rfl rfl (by decide +kernel) ⟨Nat.le_of_ble_eq_true rfl, Nat.le_of_ble_eq_true rfl⟩) ⟨pre_blind, va_recv hK hPc (ci := 4) (q0 := 0) rfl rfl, pre_pass hK hN hPc hDc⟩ rfl rfl hl.1 rfl (lv_room (Nat.le_of_ble_eq_true rfl)) dX4_modulate_43 ⟨Nat.le_of_ble_eq_true rfl, Nat.le_of_ble_eq_true rfl⟩) hP hD hS hA [0, 1, 2, 3, 4, 5, 6, 7] rfl (fun r43 H locs hw43 hP hS => ?_)
        try dsimp only at hw43
        have hq : r43.toInt = paceF Mt Ms Mf Ml nm (p0.toInt - 1) := by rcases hw43 with h | h; omega; rw [h.2, tx42]
        have pr := pace_rng hOM (p0.toInt - 1)
        rw [← hq] at pr
        refine lv_i2l hx hb dX4_modulate_46 rfl ?_
        refine lv_topl (fun x46 ex46 => ?_)
        have tx46 : x46.toInt = r43.toInt := by rw [ex46]; exact tc_i2l rfl
        refine lv_iload_n hx hb dX4_modulate_47 rfl (lv_at hl 2 rfl) ?_
        refine lv_i2l hx hb dX4_modulate_48 rfl ?_
        refine lv_topl (fun x48 ex48 => ?_)
        have tx48 : x48.toInt = p1.toInt := by rw [ex48]; exact tc_i2l rfl
        have b49 := mul_bnd (show 0 ≤ r43.toInt ∧ r43.toInt ≤ 1000000 by omega) (show 0 ≤ p1.toInt ∧ p1.toInt ≤ 1000 by omega)
        refine lv_lmul hx hb dX4_modulate_49 ?_
        refine lv_topl (fun x49 ex49 => ?_)
        have tx49 : x49.toInt = r43.toInt * p1.toInt := by rw [ex49]; exact tl_mul tx46 tx48 (by omega) (by omega)
        refine lv_iload_n hx hb dX4_modulate_50 rfl (lv_at hl 3 rfl) ?_
        refine lv_i2l hx hb dX4_modulate_51 rfl ?_
        refine lv_topl (fun x51 ex51 => ?_)
        have tx51 : x51.toInt = p2.toInt := by rw [ex51]; exact tc_i2l rfl
        refine lv_ldiv hx hb dX4_modulate_52 (l_ne0 tx51 (by omega)) ?_
        refine lv_topl (fun x52 ex52 => ?_)
        have tx52 : x52.toInt = x49.toInt / p2.toInt := by rw [ex52]; exact tl_div rfl tx51 (by omega) (by omega)
        have ev : x52.toInt = paceF Mt Ms Mf Ml nm (p0.toInt - 1) * p1.toInt / p2.toInt := by rw [tx52, tx49, hq]
        refine lv_lstore (lv' := [(4, .long x52), (0, .ref qy), (1, .int p0), (2, .int p1), (3, .int p2)]) hx hb dX4_modulate_53  hl (by decide) rfl (fun ls hl => ?_)
        refine lv_lload hx hb dX4_modulate_55 (lv_at hl 0 rfl) ?_
        refine lv_lconst (v := 1) hx hb dX4_modulate_57 (by decide) ?_
        refine lv_ldc2 (v := 1000000) hx hb hown (hts (.constantLong RX4 53 1000000) (by decide +kernel)) dX4_modulate_58 ?_
        have hPc := hP.sub (ws' := ([] : va_W)) [] rfl
        have hDc := hD.sub (ws' := ([] : va_W)) [] (by decide) rfl
        have hcc := (ct_X4_in l G cI cL H.size x52 1 1000000)
        refine ro_calli (va_runS (As := [.long x52, .long 1, .long 1000000]) (rest := []) ⟨hx, hb, hml, hown, hts⟩ hcc (va_cwS 3 hts gX4_modulate_X4_in rfl rfl rfl (by decide +kernel) ⟨Nat.le_of_ble_eq_true rfl, Nat.le_of_ble_eq_true rfl⟩) ⟨pre_blind, pre_pass hK hN hPc hDc⟩ rfl rfl hl.1 rfl (lv_room (Nat.le_of_ble_eq_true rfl)) dX4_modulate_61 ⟨Nat.le_of_ble_eq_true rfl, Nat.le_of_ble_eq_true rfl⟩) hP hD hS hA [] rfl (fun r61 H locs hw61 hP hS => ?_)
        try dsimp only at hw61
        refine lv_if_ne (tgt := 70) hx hb dX4_modulate_64 (by decide) (fun c64 => ?_) (fun c64 => ?_)
        · have k64 : (r61.toInt : Int) ≠ 0 := i_ne rfl (show ((0 : Int32)).toInt = 0 by decide) c64
          have vr : 1 ≤ x52.toInt ∧ x52.toInt ≤ 1000000 := by omega
          refine lv_aload_n hx hb dX4_modulate_70 rfl (lv_at hl 1 rfl) ?_
          refine lv_iload_n hx hb dX4_modulate_71 rfl (lv_at hl 2 rfl) ?_
          refine lv_iconst (v := 0) hx hb dX4_modulate_72 (by decide) ?_
          refine lv_lload hx hb dX4_modulate_73 (lv_at hl 0 rfl) ?_
          refine lv_l2i hx hb dX4_modulate_75 rfl ?_
          refine lv_topi (fun x75 ex75 => ?_)
          have tx75 : x75.toInt = x52.toInt := by rw [ex75]; exact tc_l2i rfl (by omega) (by omega)
          refine lv_lload hx hb dX4_modulate_76 (lv_at hl 0 rfl) ?_
          refine lv_l2i hx hb dX4_modulate_78 rfl ?_
          refine lv_topi (fun x78 ex78 => ?_)
          have tx78 : x78.toInt = x52.toInt := by rw [ex78]; exact tc_l2i rfl (by omega) (by omega)
          have e78 : x78 = x75 := i_ext (by omega)
          have hPc := hP.sub (ws' := [(qy, .inr (4, [.ref qy1, .ref qy2, .ref qy3, .ref qy4, .int zM, .ref qy5, .ref qy6, .int zH, .ref qy7, .int zT, .long bg])), (qy1, .inl (cI, 40, .inl Mt)), (qy2, .inl (cI, 40, .inl Ms)), (qy3, .inl (cI, 40, .inl Mf)), (qy4, .inl (cI, 40, .inl Ml)), (qy5, .inl (cI, 20, .inl Ht)), (qy6, .inl (cI, 20, .inl Hu)), (qy7, .inl (cL, 40, .inr (.inl Tp)))]) [0, 1, 2, 3, 4, 5, 6, 7] rfl
          have hDc := hD.sub (ws' := [(qy, .inr (4, [.ref qy1, .ref qy2, .ref qy3, .ref qy4, .int zM, .ref qy5, .ref qy6, .int zH, .ref qy7, .int zT, .long bg])), (qy1, .inl (cI, 40, .inl Mt)), (qy2, .inl (cI, 40, .inl Ms)), (qy3, .inl (cI, 40, .inl Mf)), (qy4, .inl (cI, 40, .inl Ml)), (qy5, .inl (cI, 20, .inl Ht)), (qy6, .inl (cI, 20, .inl Hu)), (qy7, .inl (cL, 40, .inr (.inl Tp)))]) [0, 1, 2, 3, 4, 5, 6, 7] (by decide) rfl
          have hcc := (ct_X4_put l G cI cL H.size qy qy1 qy2 qy3 qy4 qy5 qy6 qy7 zM zH zT bg Mt Ms Mf Ml Ht Hu Tp p0 0 x75 x78 nm hnM hOM nh hnH hOH nt hnT hOT (by omega) (by omega))
          refine rw_calli (wr := ([] : va_W)) (va_runV (As := [.int p0, .int 0, .int x75, .int x78]) (rest := []) ⟨hx, hb, hml, hown, hts⟩ hcc (cwV 4 hts gX4_modulate_X4_put rfl rfl rfl (by decide +kernel) ⟨Nat.le_of_ble_eq_true rfl, Nat.le_of_ble_eq_true rfl⟩) ⟨pre_blind, va_recv hK hPc (ci := 4) (q0 := 0) rfl rfl, pre_pass hK hN hPc hDc⟩ rfl rfl hl.1 rfl (lv_room (Nat.le_of_ble_eq_true rfl)) dX4_modulate_79 ⟨Nat.le_of_ble_eq_true rfl, Nat.le_of_ble_eq_true rfl⟩) hP hD hS hA [0, 1, 2, 3, 4, 5, 6, 7] [] rfl rfl (by decide) (by decide) (fun r79 u79 H locs hw79 hP hD hS => ?_)
          obtain ⟨zM79, Mt79, Ms79, Mf79, Ml79⟩ := u79
          have hP : va_P G vwCl [(qy, .inr (4, [.ref qy1, .ref qy2, .ref qy3, .ref qy4, .int zM79, .ref qy5, .ref qy6, .int zH, .ref qy7, .int zT, .long bg])), (qy1, .inl (cI, 40, .inl Mt79)), (qy2, .inl (cI, 40, .inl Ms79)), (qy3, .inl (cI, 40, .inl Mf79)), (qy4, .inl (cI, 40, .inl Ml79)), (qy5, .inl (cI, 20, .inl Ht)), (qy6, .inl (cI, 20, .inl Hu)), (qy7, .inl (cL, 40, .inr (.inl Tp)))] H := hP.sub [0, 1, 2, 3, 4, 5, 6, 7] rfl
          have hD : va_D A [(qy, .inr (4, [.ref qy1, .ref qy2, .ref qy3, .ref qy4, .int zM79, .ref qy5, .ref qy6, .int zH, .ref qy7, .int zT, .long bg])), (qy1, .inl (cI, 40, .inl Mt79)), (qy2, .inl (cI, 40, .inl Ms79)), (qy3, .inl (cI, 40, .inl Mf79)), (qy4, .inl (cI, 40, .inl Ml79)), (qy5, .inl (cI, 20, .inl Ht)), (qy6, .inl (cI, 20, .inl Hu)), (qy7, .inl (cL, 40, .inr (.inl Tp)))] := hD.sub [0, 1, 2, 3, 4, 5, 6, 7] (by decide) rfl
          try dsimp only at hw79
          obtain ⟨n79, a79, b79⟩ := hw79
          rw [e78] at b79
          refine lv_istore (lv' := [(6, .int r79), (4, .long x52), (0, .ref qy), (1, .int p0), (2, .int p1), (3, .int p2)]) hx hb dX4_modulate_82  hl (by decide) rfl (fun ls hl => ?_)
          refine lv_iload hx hb dX4_modulate_84 (lv_at hl 0 rfl) ?_
          refine lv_if_ge (tgt := 94) hx hb dX4_modulate_86 (by decide) (fun c86 => ?_) (fun c86 => ?_)
          · have k86 : (0 : Int) ≤ r79.toInt := i_le (show ((0 : Int32)).toInt = 0 by decide) rfl c86
            refine lv_lload hx hb dX4_modulate_94 (lv_at hl 1 rfl) ?_
            refine lv_l2i hx hb dX4_modulate_96 rfl ?_
            refine lv_topi (fun x96 ex96 => ?_)
            have tx96 : x96.toInt = x52.toInt := by rw [ex96]; exact tc_l2i rfl (by omega) (by omega)
            exact W.iret (v := x96) hx hb hr (fun t ht hW => ⟨⟨x96, (zM79, Mt79, Ms79, Mf79, Ml79), rfl, (by (try dsimp only); exact (by first | exact ⟨n79, a79, Or.inr ⟨by omega, Or.inr ⟨x75, r79.toInt, by rw [tx75]; exact ev, by omega, by omega, b79, Or.inl ⟨by omega, by omega⟩⟩⟩⟩ | exact ⟨n79, a79, Or.inr ⟨by omega, Or.inr ⟨x75, r79.toInt, by rw [tx75]; exact ev, by omega, by omega, b79, Or.inr ⟨by omega, by omega⟩⟩⟩⟩)), by rw [ht]; exact hP, hD⟩, hS.F ht⟩) hS.2.2 dX4_modulate_97
          · have k86 : (r79.toInt : Int) < 0 := i_nle (show ((0 : Int32)).toInt = 0 by decide) rfl c86
            refine lv_iload hx hb dX4_modulate_89 (lv_at hl 0 rfl) ?_
            refine lv_goto (tgt := 97) hx hb dX4_modulate_91 (by decide) ?_
            exact W.iret (v := r79) hx hb hr (fun t ht hW => ⟨⟨r79, (zM79, Mt79, Ms79, Mf79, Ml79), rfl, (by (try dsimp only); exact (by first | exact ⟨n79, a79, Or.inr ⟨by omega, Or.inr ⟨x75, r79.toInt, by rw [tx75]; exact ev, by omega, by omega, b79, Or.inl ⟨by omega, by omega⟩⟩⟩⟩ | exact ⟨n79, a79, Or.inr ⟨by omega, Or.inr ⟨x75, r79.toInt, by rw [tx75]; exact ev, by omega, by omega, b79, Or.inr ⟨by omega, by omega⟩⟩⟩⟩)), by rw [ht]; exact hP, hD⟩, hS.F ht⟩) hS.2.2 dX4_modulate_97
        · have k64 : (r61.toInt : Int) = 0 := i_eq rfl (show ((0 : Int32)).toInt = 0 by decide) c64
          refine lv_bipush (v := (-3)) hx hb dX4_modulate_67 (by decide) ?_
          exact W.iret (v := (-3)) hx hb hr (fun t ht hW => ⟨⟨(-3), (zM, Mt, Ms, Mf, Ml), rfl, (by (try dsimp only); exact ⟨nm, hnM, Or.inr ⟨by omega, Or.inl ⟨by rw [← ev]; omega, by omega, ⟨rfl, rfl, rfl, rfl, rfl⟩⟩⟩⟩), by rw [ht]; exact hP, hD⟩, hS.F ht⟩) hS.2.2 dX4_modulate_69
      · have k33 : (r30.toInt : Int) = 0 := i_eq rfl (show ((0 : Int32)).toInt = 0 by decide) c33
        refine lv_bipush (v := (-2)) hx hb dX4_modulate_36 (by decide) ?_
        exact W.iret (v := (-2)) hx hb hr (fun t ht hW => ⟨⟨(-2), (zM, Mt, Ms, Mf, Ml), rfl, (by (try dsimp only); exact ⟨nm, hnM, Or.inl ⟨by omega, by omega, ⟨rfl, rfl, rfl, rfl, rfl⟩⟩⟩), by rw [ht]; exact hP, hD⟩, hS.F ht⟩) hS.2.2 dX4_modulate_38

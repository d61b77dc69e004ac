set_option maxHeartbeats 1000000 in
set_option maxRecDepth 100000 in
theorem ct_X4_tap (l : Launch) (G : va_G) (cI cL : ClassId) (sz : Nat) (qy : Nat) (qy1 : Nat) (qy2 : Nat) (qy3 : Nat) (qy4 : Nat) (qy5 : Nat) (qy6 : Nat) (qy7 : Nat) (zM : Int32) (zH : Int32) (zT : Int32) (bg : Int64) (Mt : Nat → Int32) (Ms : Nat → Int32) (Mf : Nat → Int32) (Ml : Nat → Int32) (Ht : Nat → Int32) (Hu : Nat → Int32) (Tp : Nat → Int64) (p0 : Int64) (nm : Nat) (hnM : zM.toInt = nm) (hOM : okM nm Mt Ms Mf Ml) (nh : Nat) (hnH : zH.toInt = nh) (hOH : okH nh Ht Hu) (nt : Nat) (hnT : zT.toInt = nt) (hOT : okT nt Tp) : Met l yX4_tap wsX4_tap ({ frames := 1, cells := 0, slots := 0, locals := 25 }) (va_Pc [.ref qy, .long p0] (pre0 G cI cL [(qy, .inr (4, [.ref qy1, .ref qy2, .ref qy3, .ref qy4, .int zM, .ref qy5, .ref qy6, .int zH, .ref qy7, .int zT, .long bg])), (qy1, .inl (cI, 40, .inl Mt)), (qy2, .inl (cI, 40, .inl Ms)), (qy3, .inl (cI, 40, .inl Mf)), (qy4, .inl (cI, 40, .inl Ml)), (qy5, .inl (cI, 20, .inl Ht)), (qy6, .inl (cI, 20, .inl Hu)), (qy7, .inl (cL, 40, .inr (.inl Tp)))] sz)) (va_Qi (fun (r : Int32) (u : Int32 × (Nat → Int64)) => ∃ n' : Nat, u.1.toInt = n' ∧ tTap nt Tp p0 r.toInt n' u.2) (fun (u : Int32 × (Nat → Int64)) t => va_P G vwCl [(qy, .inr (4, [.ref qy1, .ref qy2, .ref qy3, .ref qy4, .int zM, .ref qy5, .ref qy6, .int zH, .ref qy7, .int u.1, .long bg])), (qy1, .inl (cI, 40, .inl Mt)), (qy2, .inl (cI, 40, .inl Ms)), (qy3, .inl (cI, 40, .inl Mf)), (qy4, .inl (cI, 40, .inl Ml)), (qy5, .inl (cI, 20, .inl Ht)), (qy6, .inl (cI, 20, .inl Hu)), (qy7, .inl (cL, 40, .inr (.inl (u.2))))] t.heap ∧ va_D (va_A [(qy, .inr (4, [.ref qy1, .ref qy2, .ref qy3, .ref qy4, .int zM, .ref qy5, .ref qy6, .int zH, .ref qy7, .int zT, .long bg])), (qy1, .inl (cI, 40, .inl Mt)), (qy2, .inl (cI, 40, .inl Ms)), (qy3, .inl (cI, 40, .inl Mf)), (qy4, .inl (cI, 40, .inl Ml)), (qy5, .inl (cI, 20, .inl Ht)), (qy6, .inl (cI, 20, .inl Hu)), (qy7, .inl (cL, 40, .inr (.inl Tp)))] sz) [(qy, .inr (4, [.ref qy1, .ref qy2, .ref qy3, .ref qy4, .int zM, .ref qy5, .ref qy6, .int zH, .ref qy7, .int u.1, .long bg])), (qy1, .inl (cI, 40, .inl Mt)), (qy2, .inl (cI, 40, .inl Ms)), (qy3, .inl (cI, 40, .inl Mf)), (qy4, .inl (cI, 40, .inl Ml)), (qy5, .inl (cI, 20, .inl Ht)), (qy6, .inl (cI, 20, .inl Hu)), (qy7, .inl (cL, 40, .inr (.inl (u.2))))]) (va_A [(qy, .inr (4, [.ref qy1, .ref qy2, .ref qy3, .ref qy4, .int zM, .ref qy5, .ref qy6, .int zH, .ref qy7, .int zT, .long bg])), (qy1, .inl (cI, 40, .inl Mt)), (qy2, .inl (cI, 40, .inl Ms)), (qy3, .inl (cI, 40, .inl Mf)), (qy4, .inl (cI, 40, .inl Ml)), (qy5, .inl (cI, 20, .inl Ht)), (qy6, .inl (cI, 20, .inl Hu)), (qy7, .inl (cL, 40, .inr (.inl Tp)))] sz)) 0 0 (va_A [(qy, .inr (4, [.ref qy1, .ref qy2, .ref qy3, .ref qy4, .int zM, .ref qy5, .ref qy6, .int zH, .ref qy7, .int zT, .long bg])), (qy1, .inl (cI, 40, .inl Mt)), (qy2, .inl (cI, 40, .inl Ms)), (qy3, .inl (cI, 40, .inl Mf)), (qy4, .inl (cI, 40, .inl Ml)), (qy5, .inl (cI, 20, .inl Ht)), (qy6, .inl (cI, 20, .inl Hu)), (qy7, .inl (cL, 40, .inr (.inl Tp)))] sz) := by
  refine Met.ofW (cc := cX4_tap) (maxL := 3) (ret := (some .int)) (by decide) rfl ?_
  intro p e s m args below meth c s₁ B hml hv
  obtain ⟨rfl, hsz, hP, hK, hD0, hN⟩ := hv
  have hx := B.exec
  have hb := B.bytes
  have hr := B.returns
  have hts := atoms_spec (ws := wsX4_tap) B.pre
  have hown : s.vm.findClass RX4 = some m.cls := findClass_of_methodNamed B.named
  have hlocks := B.notSynchronized
  subst hsz
  have hD := hD0.self (sz := s.heap.size)
  generalize hAe : va_A [(qy, .inr (4, [.ref qy1, .ref qy2, .ref qy3, .ref qy4, .int zM, .ref qy5, .ref qy6, .int zH, .ref qy7, .int zT, .long bg])), (qy1, .inl (cI, 40, .inl Mt)), (qy2, .inl (cI, 40, .inl Ms)), (qy3, .inl (cI, 40, .inl Mf)), (qy4, .inl (cI, 40, .inl Ml)), (qy5, .inl (cI, 20, .inl Ht)), (qy6, .inl (cI, 20, .inl Hu)), (qy7, .inl (cL, 40, .inr (.inl Tp)))] s.heap.size = A at hD ⊢
  have hA : ∀ q : Nat, s.heap.size ≤ q → A q := fun q h => by rw [← hAe]; exact Or.inr h
  have hP : va_P G vwCl [(qy, .inr (4, [.ref qy1, .ref qy2, .ref qy3, .ref qy4, .int zM, .ref qy5, .ref qy6, .int zH, .ref qy7, .int zT, .long bg])), (qy1, .inl (cI, 40, .inl Mt)), (qy2, .inl (cI, 40, .inl Ms)), (qy3, .inl (cI, 40, .inl Mf)), (qy4, .inl (cI, 40, .inl Ml)), (qy5, .inl (cI, 20, .inl Ht)), (qy6, .inl (cI, 20, .inl Hu)), (qy7, .inl (cL, 40, .inr (.inl Tp)))] s.heap := hP
  have hl := lv_entry ([.ref qy, .long p0]) (n := 3) (Nat.le_of_ble_eq_true rfl)
  rw [lg_entry_eq]
  generalize (lg_sl ([.ref qy, .long p0]) ++ List.replicate (3 - (lg_sl ([.ref qy, .long p0])).length) Slot.unset).toArray = ls at hl ⊢
  have hl : lv_has ls 3 [(0, .ref qy), (1, .long p0)] := hl
  have hf77 := hts (.fieldLink RX4 77 "TempoMapsModel" "tapMany" "I") (by decide +kernel)
  have hf28 := hts (.fieldLink RX4 28 "TempoMapsModel" "taps" "[J") (by decide +kernel)
  have hiX4 : ∀ w ∈ wsX40, w ∈ wsX4_tap := by decide +kernel
  have zim4 : ((-4 : Int32)).toInt = -4 := by decide
  have zim3 : ((-3 : Int32)).toInt = -3 := by decide
  have zim2 : ((-2 : Int32)).toInt = -2 := by decide
  have zi1 : ((1 : Int32)).toInt = 1 := by decide
  have zi40 : ((40 : Int32)).toInt = 40 := by decide
  have zl0 : ((0 : Int64)).toInt = 0 := by decide
  have zl1000000000000 : ((1000000000000 : Int64)).toInt = 1000000000000 := by decide
  refine w_h (A := A) hP (fun H locs hP hS => ?_)
  have hn40 := hOM.1
  have hrg := hOM.2.1
  have hn20 := hOH.1
  have hrh := hOH.2.1
  have hn41 := hOT.1
  have hrt := hOT.2.1
  have zz0 : ((0 : Int32)).toInt = 0 := by decide
  refine lv_lload_n hx hb dX4_tap_0 rfl (lv_at hl 1 rfl) ?_
  refine lv_lconst (v := 0) hx hb dX4_tap_1 (by decide) ?_
  refine lv_ldc2 (v := 1000000000000) hx hb hown (hts (.constantLong RX4 111 1000000000000) (by decide +kernel)) dX4_tap_2 ?_
  have hPc := hP.sub (ws' := ([] : va_W)) [] rfl
  have hDc := hD.sub (ws' := ([] : va_W)) [] (by decide) rfl
  have hcc := (ct_X4_in l G cI cL H.size p0 0 1000000000000)
  refine ro_calli (va_runS (As := [.long p0, .long 0, .long 1000000000000]) (rest := []) ⟨hx, hb, hml, hown, hts⟩ hcc (va_cwS 3 hts gX4_tap_X4_in rfl rfl rfl (by decide +kernel) ⟨Nat.le_of_ble_eq_true rfl, Nat.le_of_ble_eq_true rfl⟩) ⟨pre_blind, pre_pass hK hN hPc hDc⟩ rfl rfl hl.1 rfl (lv_room (Nat.le_of_ble_eq_true rfl)) dX4_tap_5 ⟨Nat.le_of_ble_eq_true rfl, Nat.le_of_ble_eq_true rfl⟩) hP hD hS hA [] rfl (fun r5 H locs hw5 hP hS => ?_)
  try dsimp only at hw5
  refine lv_if_ne (tgt := 14) hx hb dX4_tap_8 (by decide) (fun c8 => ?_) (fun c8 => ?_)
  · have k8 : (r5.toInt : Int) ≠ 0 := i_ne rfl (show ((0 : Int32)).toInt = 0 by decide) c8
    refine lv_aload_n hx hb dX4_tap_14 rfl (lv_at hl 0 rfl) ?_
    refine va_get (D := G) (ci := 4) (v := .int zT) (C := RX4) (T := TX4) (N := 11) hx hb hts hiX4 hown hK hP 0 rfl rfl 9 (by decide) hf77 (fun _ h9 => h9) rfl dX4_tap_15 ?_
    refine lv_if_le (tgt := 40) hx hb dX4_tap_18 (by decide) (fun c18 => ?_) (fun c18 => ?_)
    · have k18 : (zT.toInt : Int) ≤ 0 := i_le rfl (show ((0 : Int32)).toInt = 0 by decide) c18
      refine lv_aload_n hx hb dX4_tap_40 rfl (lv_at hl 0 rfl) ?_
      refine va_get (D := G) (ci := 4) (v := .int zT) (C := RX4) (T := TX4) (N := 11) hx hb hts hiX4 hown hK hP 0 rfl rfl 9 (by decide) hf77 (fun _ h9 => h9) rfl dX4_tap_41 ?_
      refine lv_bipush (v := 40) hx hb dX4_tap_44 (by decide) ?_
      refine lv_icmp_ne (tgt := 52) hx hb dX4_tap_46 (by decide) (fun c46 => ?_) (fun c46 => ?_)
      · have k46 : (zT.toInt : Int) ≠ 40 := i_ne rfl (show ((40 : Int32)).toInt = 40 by decide) c46
        refine lv_aload_n hx hb dX4_tap_52 rfl (lv_at hl 0 rfl) ?_
        refine va_get (D := G) (ci := 4) (v := .ref qy7) (C := RX4) (T := TX4) (N := 11) hx hb hts hiX4 hown hK hP 0 rfl rfl 8 (by decide) hf28 (fun _ h9 => h9) rfl dX4_tap_53 ?_
        refine lv_aload_n hx hb dX4_tap_56 rfl (lv_at hl 0 rfl) ?_
        refine va_get (D := G) (ci := 4) (v := .int zT) (C := RX4) (T := TX4) (N := 11) hx hb hts hiX4 hown hK hP 0 rfl rfl 9 (by decide) hf77 (fun _ h9 => h9) rfl dX4_tap_57 ?_
        refine lv_lload_n hx hb dX4_tap_60 rfl (lv_at hl 1 rfl) ?_
        refine va_last hx hb hK hP hD hS 7 1 rfl rfl (vi_in rfl (by omega) (by omega)) dX4_tap_61 (fun H locs hP hD hS => ?_)
        rw [cl_nat rfl (show zT.toInt = ((zT.toInt.toNat : Nat) : Int) by omega)] at hP hD
        have hP : va_P G vwCl [(qy, .inr (4, [.ref qy1, .ref qy2, .ref qy3, .ref qy4, .int zM, .ref qy5, .ref qy6, .int zH, .ref qy7, .int zT, .long bg])), (qy1, .inl (cI, 40, .inl Mt)), (qy2, .inl (cI, 40, .inl Ms)), (qy3, .inl (cI, 40, .inl Mf)), (qy4, .inl (cI, 40, .inl Ml)), (qy5, .inl (cI, 20, .inl Ht)), (qy6, .inl (cI, 20, .inl Hu)), (qy7, .inl (cL, 40, .inr (.inl (vp_updL Tp zT.toInt.toNat p0))))] H := hP
        have hD : va_D A [(qy, .inr (4, [.ref qy1, .ref qy2, .ref qy3, .ref qy4, .int zM, .ref qy5, .ref qy6, .int zH, .ref qy7, .int zT, .long bg])), (qy1, .inl (cI, 40, .inl Mt)), (qy2, .inl (cI, 40, .inl Ms)), (qy3, .inl (cI, 40, .inl Mf)), (qy4, .inl (cI, 40, .inl Ml)), (qy5, .inl (cI, 20, .inl Ht)), (qy6, .inl (cI, 20, .inl Hu)), (qy7, .inl (cL, 40, .inr (.inl (vp_updL Tp zT.toInt.toNat p0))))] := hD
        refine lv_aload_n hx hb dX4_tap_62 rfl (lv_at hl 0 rfl) ?_
        refine lv_dup hx hb dX4_tap_63 rfl ?_
        refine va_get (D := G) (ci := 4) (v := .int zT) (C := RX4) (T := TX4) (N := 11) hx hb hts hiX4 hown hK hP 0 rfl rfl 9 (by decide) hf77 (fun _ h9 => h9) rfl dX4_tap_64 ?_
        refine lv_iconst (v := 1) hx hb dX4_tap_67 (by decide) ?_
        refine lv_iadd hx hb dX4_tap_68 ?_
        refine lv_topi (fun x68 ex68 => ?_)
        have tx68 : x68.toInt = zT.toInt + 1 := by rw [ex68]; exact ti_add rfl (show ((1 : Int32)).toInt = 1 by decide) (by omega) (by omega)
        refine va_put (D := G) (ci := 4) (v := .int x68) (ty := .int) (C := RX4) (T := TX4) (N := 11) hx hb hts hiX4 tyX4 tyX4_ok nmX4 hown hK hP hD hS 0 rfl rfl 9 (by decide) hf77 (fun _ h9 => h9) rfl (by decide +kernel) rfl rfl (Nat.le_of_ble_eq_true rfl) dX4_tap_69 (fun H locs hP hD hS => ?_)
        have hP : va_P G vwCl [(qy, .inr (4, [.ref qy1, .ref qy2, .ref qy3, .ref qy4, .int zM, .ref qy5, .ref qy6, .int zH, .ref qy7, .int x68, .long bg])), (qy1, .inl (cI, 40, .inl Mt)), (qy2, .inl (cI, 40, .inl Ms)), (qy3, .inl (cI, 40, .inl Mf)), (qy4, .inl (cI, 40, .inl Ml)), (qy5, .inl (cI, 20, .inl Ht)), (qy6, .inl (cI, 20, .inl Hu)), (qy7, .inl (cL, 40, .inr (.inl (vp_updL Tp zT.toInt.toNat p0))))] H := hP
        have hD : va_D A [(qy, .inr (4, [.ref qy1, .ref qy2, .ref qy3, .ref qy4, .int zM, .ref qy5, .ref qy6, .int zH, .ref qy7, .int x68, .long bg])), (qy1, .inl (cI, 40, .inl Mt)), (qy2, .inl (cI, 40, .inl Ms)), (qy3, .inl (cI, 40, .inl Mf)), (qy4, .inl (cI, 40, .inl Ml)), (qy5, .inl (cI, 20, .inl Ht)), (qy6, .inl (cI, 20, .inl Hu)), (qy7, .inl (cL, 40, .inr (.inl (vp_updL Tp zT.toInt.toNat p0))))] := hD
        refine lv_aload_n hx hb dX4_tap_72 rfl (lv_at hl 0 rfl) ?_
        refine va_get (D := G) (ci := 4) (v := .int x68) (C := RX4) (T := TX4) (N := 11) hx hb hts hiX4 hown hK hP 0 rfl rfl 9 (by decide) hf77 (fun _ h9 => h9) rfl dX4_tap_73 ?_
        exact W.iret (v := x68) hx hb hr (fun t ht hW => ⟨⟨x68, (x68, vp_updL Tp zT.toInt.toNat p0), rfl, (by (try dsimp only); exact ⟨nt + 1, by omega, Or.inr ⟨by omega, Or.inr (Or.inr ⟨fun _ => by omega, by omega, by omega, rfl, by rw [show zT.toInt.toNat = nt by omega]⟩)⟩⟩), by rw [ht]; exact hP, hD⟩, hS.F ht⟩) hS.2.2 dX4_tap_76
      · have k46 : (zT.toInt : Int) = 40 := i_eq rfl (show ((40 : Int32)).toInt = 40 by decide) c46
        refine lv_bipush (v := (-4)) hx hb dX4_tap_49 (by decide) ?_
        exact W.iret (v := (-4)) hx hb hr (fun t ht hW => ⟨⟨(-4), (zT, Tp), rfl, (by (try dsimp only); exact ⟨nt, hnT, Or.inr ⟨by omega, Or.inr (Or.inl ⟨fun _ => by omega, by omega, by omega, rfl, rfl⟩)⟩⟩), by rw [ht]; exact hP, hD⟩, hS.F ht⟩) hS.2.2 dX4_tap_51
    · have k18 : (0 : Int) < zT.toInt := i_nle rfl (show ((0 : Int32)).toInt = 0 by decide) c18
      refine lv_lload_n hx hb dX4_tap_21 rfl (lv_at hl 1 rfl) ?_
      refine lv_aload_n hx hb dX4_tap_22 rfl (lv_at hl 0 rfl) ?_
      refine va_get (D := G) (ci := 4) (v := .ref qy7) (C := RX4) (T := TX4) (N := 11) hx hb hts hiX4 hown hK hP 0 rfl rfl 8 (by decide) hf28 (fun _ h9 => h9) rfl dX4_tap_23 ?_
      refine lv_aload_n hx hb dX4_tap_26 rfl (lv_at hl 0 rfl) ?_
      refine va_get (D := G) (ci := 4) (v := .int zT) (C := RX4) (T := TX4) (N := 11) hx hb hts hiX4 hown hK hP 0 rfl rfl 9 (by decide) hf77 (fun _ h9 => h9) rfl dX4_tap_27 ?_
      refine lv_iconst (v := 1) hx hb dX4_tap_30 (by decide) ?_
      refine lv_isub hx hb dX4_tap_31 ?_
      refine lv_topi (fun x31 ex31 => ?_)
      have tx31 : x31.toInt = zT.toInt - 1 := by rw [ex31]; exact ti_sub rfl (show ((1 : Int32)).toInt = 1 by decide) (by omega) (by omega)
      refine va_lald hx hb hK hP 7 1 rfl rfl (vi_in rfl (by omega) (by omega)) dX4_tap_32 ?_
      refine lv_topl (fun x32 ex32 => ?_)
      have ex32 : x32 = Tp (nt - 1) := by rw [ex32]; exact congrArg _ (cl_nat rfl (by omega))
      have tx32 : x32.toInt = (Tp (nt - 1)).toInt := by rw [ex32]
      refine W.lcmp hx hb dX4_tap_33 ?_
      refine lv_if_gt (tgt := 40) hx hb dX4_tap_34 (by decide) (fun c34 => ?_) (fun c34 => ?_)
      · have k34 : (x32.toInt : Int) < p0.toInt := l_lt rfl rfl ((lg_cmp_gt _ _).mp c34)
        refine lv_aload_n hx hb dX4_tap_40 rfl (lv_at hl 0 rfl) ?_
        refine va_get (D := G) (ci := 4) (v := .int zT) (C := RX4) (T := TX4) (N := 11) hx hb hts hiX4 hown hK hP 0 rfl rfl 9 (by decide) hf77 (fun _ h9 => h9) rfl dX4_tap_41 ?_
        refine lv_bipush (v := 40) hx hb dX4_tap_44 (by decide) ?_
        refine lv_icmp_ne (tgt := 52) hx hb dX4_tap_46 (by decide) (fun c46 => ?_) (fun c46 => ?_)
        · have k46 : (zT.toInt : Int) ≠ 40 := i_ne rfl (show ((40 : Int32)).toInt = 40 by decide) c46
          refine lv_aload_n hx hb dX4_tap_52 rfl (lv_at hl 0 rfl) ?_
          refine va_get (D := G) (ci := 4) (v := .ref qy7) (C := RX4) (T := TX4) (N := 11) hx hb hts hiX4 hown hK hP 0 rfl rfl 8 (by decide) hf28 (fun _ h9 => h9) rfl dX4_tap_53 ?_
          refine lv_aload_n hx hb dX4_tap_56 rfl (lv_at hl 0 rfl) ?_
          refine va_get (D := G) (ci := 4) (v := .int zT) (C := RX4) (T := TX4) (N := 11) hx hb hts hiX4 hown hK hP 0 rfl rfl 9 (by decide) hf77 (fun _ h9 => h9) rfl dX4_tap_57 ?_
          refine lv_lload_n hx hb dX4_tap_60 rfl (lv_at hl 1 rfl) ?_
          refine va_last hx hb hK hP hD hS 7 1 rfl rfl (vi_in rfl (by omega) (by omega)) dX4_tap_61 (fun H locs hP hD hS => ?_)
          rw [cl_nat rfl (show zT.toInt = ((zT.toInt.toNat : Nat) : Int) by omega)] at hP hD
          have hP : va_P G vwCl [(qy, .inr (4, [.ref qy1, .ref qy2, .ref qy3, .ref qy4, .int zM, .ref qy5, .ref qy6, .int zH, .ref qy7, .int zT, .long bg])), (qy1, .inl (cI, 40, .inl Mt)), (qy2, .inl (cI, 40, .inl Ms)), (qy3, .inl (cI, 40, .inl Mf)), (qy4, .inl (cI, 40, .inl Ml)), (qy5, .inl (cI, 20, .inl Ht)), (qy6, .inl (cI, 20, .inl Hu)), (qy7, .inl (cL, 40, .inr (.inl (vp_updL Tp zT.toInt.toNat p0))))] H := hP
          have hD : va_D A [(qy, .inr (4, [.ref qy1, .ref qy2, .ref qy3, .ref qy4, .int zM, .ref qy5, .ref qy6, .int zH, .ref qy7, .int zT, .long bg])), (qy1, .inl (cI, 40, .inl Mt)), (qy2, .inl (cI, 40, .inl Ms)), (qy3, .inl (cI, 40, .inl Mf)), (qy4, .inl (cI, 40, .inl Ml)), (qy5, .inl (cI, 20, .inl Ht)), (qy6, .inl (cI, 20, .inl Hu)), (qy7, .inl (cL, 40, .inr (.inl (vp_updL Tp zT.toInt.toNat p0))))] := hD
          refine lv_aload_n hx hb dX4_tap_62 rfl (lv_at hl 0 rfl) ?_
          refine lv_dup hx hb dX4_tap_63 rfl ?_
          refine va_get (D := G) (ci := 4) (v := .int zT) (C := RX4) (T := TX4) (N := 11) hx hb hts hiX4 hown hK hP 0 rfl rfl 9 (by decide) hf77 (fun _ h9 => h9) rfl dX4_tap_64 ?_
          refine lv_iconst (v := 1) hx hb dX4_tap_67 (by decide) ?_
          refine lv_iadd hx hb dX4_tap_68 ?_
          refine lv_topi (fun x68_2 ex68_2 => ?_)
          have tx68_2 : x68_2.toInt = zT.toInt + 1 := by rw [ex68_2]; exact ti_add rfl (show ((1 : Int32)).toInt = 1 by decide) (by omega) (by omega)
          refine va_put (D := G) (ci := 4) (v := .int x68_2) (ty := .int) (C := RX4) (T := TX4) (N := 11) hx hb hts hiX4 tyX4 tyX4_ok nmX4 hown hK hP hD hS 0 rfl rfl 9 (by decide) hf77 (fun _ h9 => h9) rfl (by decide +kernel) rfl rfl (Nat.le_of_ble_eq_true rfl) dX4_tap_69 (fun H locs hP hD hS => ?_)
          have hP : va_P G vwCl [(qy, .inr (4, [.ref qy1, .ref qy2, .ref qy3, .ref qy4, .int zM, .ref qy5, .ref qy6, .int zH, .ref qy7, .int x68_2, .long bg])), (qy1, .inl (cI, 40, .inl Mt)), (qy2, .inl (cI, 40, .inl Ms)), (qy3, .inl (cI, 40, .inl Mf)), (qy4, .inl (cI, 40, .inl Ml)), (qy5, .inl (cI, 20, .inl Ht)), (qy6, .inl (cI, 20, .inl Hu)), (qy7, .inl (cL, 40, .inr (.inl (vp_updL Tp zT.toInt.toNat p0))))] H := hP
          have hD : va_D A [(qy, .inr (4, [.ref qy1, .ref qy2, .ref qy3, .ref qy4, .int zM, .ref qy5, .ref qy6, .int zH, .ref qy7, .int x68_2, .long bg])), (qy1, .inl (cI, 40, .inl Mt)), (qy2, .inl (cI, 40, .inl Ms)), (qy3, .inl (cI, 40, .inl Mf)), (qy4, .inl (cI, 40, .inl Ml)), (qy5, .inl (cI, 20, .inl Ht)), (qy6, .inl (cI, 20, .inl Hu)), (qy7, .inl (cL, 40, .inr (.inl (vp_updL Tp zT.toInt.toNat p0))))] := hD
          refine lv_aload_n hx hb dX4_tap_72 rfl (lv_at hl 0 rfl) ?_
          refine va_get (D := G) (ci := 4) (v := .int x68_2) (C := RX4) (T := TX4) (N := 11) hx hb hts hiX4 hown hK hP 0 rfl rfl 9 (by decide) hf77 (fun _ h9 => h9) rfl dX4_tap_73 ?_
          exact W.iret (v := x68_2) hx hb hr (fun t ht hW => ⟨⟨x68_2, (x68_2, vp_updL Tp zT.toInt.toNat p0), rfl, (by (try dsimp only); exact ⟨nt + 1, by omega, Or.inr ⟨by omega, Or.inr (Or.inr ⟨fun _ => by omega, by omega, by omega, rfl, by rw [show zT.toInt.toNat = nt by omega]⟩)⟩⟩), by rw [ht]; exact hP, hD⟩, hS.F ht⟩) hS.2.2 dX4_tap_76
        · have k46 : (zT.toInt : Int) = 40 := i_eq rfl (show ((40 : Int32)).toInt = 40 by decide) c46
          refine lv_bipush (v := (-4)) hx hb dX4_tap_49 (by decide) ?_
          exact W.iret (v := (-4)) hx hb hr (fun t ht hW => ⟨⟨(-4), (zT, Tp), rfl, (by (try dsimp only); exact ⟨nt, hnT, Or.inr ⟨by omega, Or.inr (Or.inl ⟨fun _ => by omega, by omega, by omega, rfl, rfl⟩)⟩⟩), by rw [ht]; exact hP, hD⟩, hS.F ht⟩) hS.2.2 dX4_tap_51
      · have k34 : (p0.toInt : Int) ≤ x32.toInt := l_nlt rfl rfl (fun h9 => c34 ((lg_cmp_gt _ _).mpr h9))
        refine lv_bipush (v := (-3)) hx hb dX4_tap_37 (by decide) ?_
        exact W.iret (v := (-3)) hx hb hr (fun t ht hW => ⟨⟨(-3), (zT, Tp), rfl, (by (try dsimp only); exact ⟨nt, hnT, Or.inr ⟨by omega, Or.inl ⟨by omega, by omega, by omega, rfl, rfl⟩⟩⟩), by rw [ht]; exact hP, hD⟩, hS.F ht⟩) hS.2.2 dX4_tap_39
  · have k8 : (r5.toInt : Int) = 0 := i_eq rfl (show ((0 : Int32)).toInt = 0 by decide) c8
    refine lv_bipush (v := (-2)) hx hb dX4_tap_11 (by decide) ?_
    exact W.iret (v := (-2)) hx hb hr (fun t ht hW => ⟨⟨(-2), (zT, Tp), rfl, (by (try dsimp only); exact ⟨nt, hnT, Or.inl ⟨by omega, by omega, rfl, rfl⟩⟩), by rw [ht]; exact hP, hD⟩, hS.F ht⟩) hS.2.2 dX4_tap_13

set_option maxHeartbeats 1000000 in
set_option maxRecDepth 100000 in
theorem ct_X4_pace (l : Launch) (G : va_G) (cI cL : ClassId) (sz : Nat) (qy : Nat) (qy1 : Nat) (qy2 : Nat) (qy3 : Nat) (qy4 : Nat) (qy5 : Nat) (qy6 : Nat) (qy7 : Nat) (zM : Int32) (zH : Int32) (zT : Int32) (bg : Int64) (Mt : Nat → Int32) (Ms : Nat → Int32) (Mf : Nat → Int32) (Ml : Nat → Int32) (Ht : Nat → Int32) (Hu : Nat → Int32) (Tp : Nat → Int64) (p0 : Int32) (nm : Nat) (hnM : zM.toInt = nm) (hOM : okM nm Mt Ms Mf Ml) (nh : Nat) (hnH : zH.toInt = nh) (hOH : okH nh Ht Hu) (nt : Nat) (hnT : zT.toInt = nt) (hOT : okT nt Tp) : Met l yX4_pace wsX4_pace ({ frames := 1, cells := 0, slots := 0, locals := 25 }) (va_Pc [.ref qy, .int p0] (pre0 G cI cL [(qy, .inr (4, [.ref qy1, .ref qy2, .ref qy3, .ref qy4, .int zM, .ref qy5, .ref qy6, .int zH, .ref qy7, .int zT, .long bg])), (qy1, .inl (cI, 40, .inl Mt)), (qy2, .inl (cI, 40, .inl Ms)), (qy3, .inl (cI, 40, .inl Mf)), (qy4, .inl (cI, 40, .inl Ml)), (qy5, .inl (cI, 20, .inl Ht)), (qy6, .inl (cI, 20, .inl Hu)), (qy7, .inl (cL, 40, .inr (.inl Tp)))] sz)) (va_Ql (fun (r : Int64) (u : Unit) => ((p0.toInt < 1 ∨ 100000 < p0.toInt) ∧ r.toInt = -2) ∨ ((1 ≤ p0.toInt ∧ p0.toInt ≤ 100000) ∧ nt < 2 ∧ r.toInt = -3) ∨ ((1 ≤ p0.toInt ∧ p0.toInt ≤ 100000) ∧ 2 ≤ nt ∧ nearP (6 * sD Tp nt nt) ((nt : Int) * ((nt : Int) * nt - 1) * p0.toInt) r.toInt)) (fun (u : Unit) t => va_P G vwCl [(qy, .inr (4, [.ref qy1, .ref qy2, .ref qy3, .ref qy4, .int zM, .ref qy5, .ref qy6, .int zH, .ref qy7, .int zT, .long bg])), (qy1, .inl (cI, 40, .inl Mt)), (qy2, .inl (cI, 40, .inl Ms)), (qy3, .inl (cI, 40, .inl Mf)), (qy4, .inl (cI, 40, .inl Ml)), (qy5, .inl (cI, 20, .inl Ht)), (qy6, .inl (cI, 20, .inl Hu)), (qy7, .inl (cL, 40, .inr (.inl Tp)))] t.heap ∧ va_D (va_A [(qy, .inr (4, [.ref qy1, .ref qy2, .ref qy3, .ref qy4, .int zM, .ref qy5, .ref qy6, .int zH, .ref qy7, .int zT, .long bg])), (qy1, .inl (cI, 40, .inl Mt)), (qy2, .inl (cI, 40, .inl Ms)), (qy3, .inl (cI, 40, .inl Mf)), (qy4, .inl (cI, 40, .inl Ml)), (qy5, .inl (cI, 20, .inl Ht)), (qy6, .inl (cI, 20, .inl Hu)), (qy7, .inl (cL, 40, .inr (.inl Tp)))] sz) [(qy, .inr (4, [.ref qy1, .ref qy2, .ref qy3, .ref qy4, .int zM, .ref qy5, .ref qy6, .int zH, .ref qy7, .int zT, .long bg])), (qy1, .inl (cI, 40, .inl Mt)), (qy2, .inl (cI, 40, .inl Ms)), (qy3, .inl (cI, 40, .inl Mf)), (qy4, .inl (cI, 40, .inl Ml)), (qy5, .inl (cI, 20, .inl Ht)), (qy6, .inl (cI, 20, .inl Hu)), (qy7, .inl (cL, 40, .inr (.inl Tp)))]) (va_A [(qy, .inr (4, [.ref qy1, .ref qy2, .ref qy3, .ref qy4, .int zM, .ref qy5, .ref qy6, .int zH, .ref qy7, .int zT, .long bg])), (qy1, .inl (cI, 40, .inl Mt)), (qy2, .inl (cI, 40, .inl Ms)), (qy3, .inl (cI, 40, .inl Mf)), (qy4, .inl (cI, 40, .inl Ml)), (qy5, .inl (cI, 20, .inl Ht)), (qy6, .inl (cI, 20, .inl Hu)), (qy7, .inl (cL, 40, .inr (.inl Tp)))] sz)) 0 0 (va_A [(qy, .inr (4, [.ref qy1, .ref qy2, .ref qy3, .ref qy4, .int zM, .ref qy5, .ref qy6, .int zH, .ref qy7, .int zT, .long bg])), (qy1, .inl (cI, 40, .inl Mt)), (qy2, .inl (cI, 40, .inl Ms)), (qy3, .inl (cI, 40, .inl Mf)), (qy4, .inl (cI, 40, .inl Ml)), (qy5, .inl (cI, 20, .inl Ht)), (qy6, .inl (cI, 20, .inl Hu)), (qy7, .inl (cL, 40, .inr (.inl Tp)))] sz) := by
  refine Met.ofW (cc := cX4_pace) (maxL := 6) (ret := (some .long)) (by decide) rfl ?_
  intro p e s m args below meth c s₁ B hml hv
  obtain ⟨rfl, hsz, hP, hK, hD0, hN⟩ := hv
  have hx := B.exec
  have hb := B.bytes
  have hr := B.returns
  have hts := atoms_spec (ws := wsX4_pace) B.pre
  have hown : s.vm.findClass RX4 = some m.cls := findClass_of_methodNamed B.named
  have hlocks := B.notSynchronized
  subst hsz
  have hD := hD0.self (sz := s.heap.size)
  generalize hAe : va_A [(qy, .inr (4, [.ref qy1, .ref qy2, .ref qy3, .ref qy4, .int zM, .ref qy5, .ref qy6, .int zH, .ref qy7, .int zT, .long bg])), (qy1, .inl (cI, 40, .inl Mt)), (qy2, .inl (cI, 40, .inl Ms)), (qy3, .inl (cI, 40, .inl Mf)), (qy4, .inl (cI, 40, .inl Ml)), (qy5, .inl (cI, 20, .inl Ht)), (qy6, .inl (cI, 20, .inl Hu)), (qy7, .inl (cL, 40, .inr (.inl Tp)))] s.heap.size = A at hD ⊢
  have hA : ∀ q : Nat, s.heap.size ≤ q → A q := fun q h => by rw [← hAe]; exact Or.inr h
  have hP : va_P G vwCl [(qy, .inr (4, [.ref qy1, .ref qy2, .ref qy3, .ref qy4, .int zM, .ref qy5, .ref qy6, .int zH, .ref qy7, .int zT, .long bg])), (qy1, .inl (cI, 40, .inl Mt)), (qy2, .inl (cI, 40, .inl Ms)), (qy3, .inl (cI, 40, .inl Mf)), (qy4, .inl (cI, 40, .inl Ml)), (qy5, .inl (cI, 20, .inl Ht)), (qy6, .inl (cI, 20, .inl Hu)), (qy7, .inl (cL, 40, .inr (.inl Tp)))] s.heap := hP
  have hl := lv_entry ([.ref qy, .int p0]) (n := 6) (Nat.le_of_ble_eq_true rfl)
  rw [lg_entry_eq]
  generalize (lg_sl ([.ref qy, .int p0]) ++ List.replicate (6 - (lg_sl ([.ref qy, .int p0])).length) Slot.unset).toArray = ls at hl ⊢
  have hl : lv_has ls 6 [(0, .ref qy), (1, .int p0)] := hl
  have hf77 := hts (.fieldLink RX4 77 "TempoMapsModel" "tapMany" "I") (by decide +kernel)
  have hiX4 : ∀ w ∈ wsX40, w ∈ wsX4_pace := by decide +kernel
  have zi2 : ((2 : Int32)).toInt = 2 := by decide
  have zlm3 : ((-3 : Int64)).toInt = -3 := by decide
  have zlm2 : ((-2 : Int64)).toInt = -2 := by decide
  have zl0 : ((0 : Int64)).toInt = 0 := by decide
  have zl1 : ((1 : Int64)).toInt = 1 := by decide
  have zl2 : ((2 : Int64)).toInt = 2 := by decide
  have zl100000 : ((100000 : Int64)).toInt = 100000 := by decide
  refine w_h (A := A) hP (fun H locs hP hS => ?_)
  have hn40 := hOM.1
  have hrg := hOM.2.1
  have hn20 := hOH.1
  have hrh := hOH.2.1
  have hn41 := hOT.1
  have hrt := hOT.2.1
  have zz0 : ((0 : Int32)).toInt = 0 := by decide
  have dn := sD_nn nt hOT.2.2
  rw [← sD_eq] at dn
  have ar := abv_rng hOT
  have a2 := abv_two (f := Tp) nt
  rw [← sD_eq] at a2
  have br := blw_all nt (by omega)
  refine lv_iload_n hx hb dX4_pace_0 rfl (lv_at hl 1 rfl) ?_
  refine lv_i2l hx hb dX4_pace_1 rfl ?_
  refine lv_topl (fun x1 ex1 => ?_)
  have tx1 : x1.toInt = p0.toInt := by rw [ex1]; exact tc_i2l rfl
  refine lv_lconst (v := 1) hx hb dX4_pace_2 (by decide) ?_
  refine lv_ldc2 (v := 100000) hx hb hown (hts (.constantLong RX4 130 100000) (by decide +kernel)) dX4_pace_3 ?_
  have hPc := hP.sub (ws' := ([] : va_W)) [] rfl
  have hDc := hD.sub (ws' := ([] : va_W)) [] (by decide) rfl
  have hcc := (ct_X4_in l G cI cL H.size x1 1 100000)
  refine ro_calli (va_runS (As := [.long x1, .long 1, .long 100000]) (rest := []) ⟨hx, hb, hml, hown, hts⟩ hcc (va_cwS 3 hts gX4_pace_X4_in rfl rfl rfl (by decide +kernel) ⟨Nat.le_of_ble_eq_true rfl, Nat.le_of_ble_eq_true rfl⟩) ⟨pre_blind, pre_pass hK hN hPc hDc⟩ rfl rfl hl.1 rfl (lv_room (Nat.le_of_ble_eq_true rfl)) dX4_pace_6 ⟨Nat.le_of_ble_eq_true rfl, Nat.le_of_ble_eq_true rfl⟩) hP hD hS hA [] rfl (fun r6 H locs hw6 hP hS => ?_)
  try dsimp only at hw6
  refine lv_if_ne (tgt := 16) hx hb dX4_pace_9 (by decide) (fun c9 => ?_) (fun c9 => ?_)
  · have k9 : (r6.toInt : Int) ≠ 0 := i_ne rfl (show ((0 : Int32)).toInt = 0 by decide) c9
    refine lv_aload_n hx hb dX4_pace_16 rfl (lv_at hl 0 rfl) ?_
    refine va_get (D := G) (ci := 4) (v := .int zT) (C := RX4) (T := TX4) (N := 11) hx hb hts hiX4 hown hK hP 0 rfl rfl 9 (by decide) hf77 (fun _ h9 => h9) rfl dX4_pace_17 ?_
    refine lv_iconst (v := 2) hx hb dX4_pace_20 (by decide) ?_
    refine lv_icmp_ge (tgt := 28) hx hb dX4_pace_21 (by decide) (fun c21 => ?_) (fun c21 => ?_)
    · have k21 : (2 : Int) ≤ zT.toInt := i_le (show ((2 : Int32)).toInt = 2 by decide) rfl c21
      have hb8 : 1 ≤ (nt : Int) * ((nt : Int) * nt - 1) ∧ (nt : Int) * ((nt : Int) * nt - 1) ≤ 64000 := by
        have h1 := mul_bnd (show 0 ≤ (nt : Int) ∧ (nt : Int) ≤ 40 by omega) (show 0 ≤ (nt : Int) ∧ (nt : Int) ≤ 40 by omega)
        have h2 : 2 * 2 ≤ (nt : Int) * nt := Int.mul_le_mul (by omega) (by omega) (by omega) (by omega)
        have h3 := mul_ge1 (a := (nt : Int)) (b := (nt : Int) * nt - 1) (by omega) (by omega)
        have h4 := mul_bnd (show 0 ≤ (nt : Int) ∧ (nt : Int) ≤ 40 by omega) (show 0 ≤ (nt : Int) * nt - 1 ∧ (nt : Int) * nt - 1 ≤ 1600 by omega)
        omega
      have da : 6 * sD Tp nt nt ≤ 1000000000000000000 := by
        have h1 : 2 * sD Tp nt nt ≤ nt * sD Tp nt nt := Int.mul_le_mul_of_nonneg_right (by omega) dn
        omega
      refine lv_aload_n hx hb dX4_pace_28 rfl (lv_at hl 0 rfl) ?_
      have hPc := hP.sub (ws' := [(qy, .inr (4, [.ref qy1, .ref qy2, .ref qy3, .ref qy4, .int zM, .ref qy5, .ref qy6, .int zH, .ref qy7, .int zT, .long bg])), (qy1, .inl (cI, 40, .inl Mt)), (qy2, .inl (cI, 40, .inl Ms)), (qy3, .inl (cI, 40, .inl Mf)), (qy4, .inl (cI, 40, .inl Ml)), (qy5, .inl (cI, 20, .inl Ht)), (qy6, .inl (cI, 20, .inl Hu)), (qy7, .inl (cL, 40, .inr (.inl Tp)))]) [0, 1, 2, 3, 4, 5, 6, 7] rfl
      have hDc := hD.sub (ws' := [(qy, .inr (4, [.ref qy1, .ref qy2, .ref qy3, .ref qy4, .int zM, .ref qy5, .ref qy6, .int zH, .ref qy7, .int zT, .long bg])), (qy1, .inl (cI, 40, .inl Mt)), (qy2, .inl (cI, 40, .inl Ms)), (qy3, .inl (cI, 40, .inl Mf)), (qy4, .inl (cI, 40, .inl Ml)), (qy5, .inl (cI, 20, .inl Ht)), (qy6, .inl (cI, 20, .inl Hu)), (qy7, .inl (cL, 40, .inr (.inl Tp)))]) [0, 1, 2, 3, 4, 5, 6, 7] (by decide) rfl
      have hcc := (ct_X4_below l G cI cL H.size qy qy1 qy2 qy3 qy4 qy5 qy6 qy7 zM zH zT bg Mt Ms Mf Ml Ht Hu Tp nm hnM hOM nh hnH hOH nt hnT hOT)
      refine ro_calll (va_runV (As := []) (rest := []) ⟨hx, hb, hml, hown, hts⟩ hcc (cwV 0 hts gX4_pace_X4_below rfl rfl rfl (by decide +kernel) ⟨Nat.le_of_ble_eq_true rfl, Nat.le_of_ble_eq_true rfl⟩) ⟨pre_blind, va_recv hK hPc (ci := 4) (q0 := 0) rfl rfl, pre_pass hK hN hPc hDc⟩ rfl rfl hl.1 rfl (lv_room (Nat.le_of_ble_eq_true rfl)) dX4_pace_29 ⟨Nat.le_of_ble_eq_true rfl, Nat.le_of_ble_eq_true rfl⟩) hP hD hS hA [0, 1, 2, 3, 4, 5, 6, 7] rfl (fun r29 H locs hw29 hP hS => ?_)
      try dsimp only at hw29
      refine lv_iload_n hx hb dX4_pace_32 rfl (lv_at hl 1 rfl) ?_
      refine lv_i2l hx hb dX4_pace_33 rfl ?_
      refine lv_topl (fun x33 ex33 => ?_)
      have tx33 : x33.toInt = p0.toInt := by rw [ex33]; exact tc_i2l rfl
      have b34 := mul_bnd (show 0 ≤ r29.toInt ∧ r29.toInt ≤ 64000 by omega) (show 0 ≤ p0.toInt ∧ p0.toInt ≤ 100000 by omega)
      have c34 := mul_ge1 (a := r29.toInt) (b := p0.toInt) (by omega) (by omega)
      refine lv_lmul hx hb dX4_pace_34 ?_
      refine lv_topl (fun x34 ex34 => ?_)
      have tx34 : x34.toInt = r29.toInt * p0.toInt := by rw [ex34]; exact tl_mul rfl tx33 (by omega) (by omega)
      refine lv_lstore_n (lv' := [(2, .long x34), (0, .ref qy), (1, .int p0)]) hx hb dX4_pace_35 rfl hl (by decide) rfl (fun ls hl => ?_)
      have e34 : x34.toInt = (nt : Int) * ((nt : Int) * nt - 1) * p0.toInt := by rw [tx34, hw29]
      refine lv_ldc2 (v := 2) hx hb hown (hts (.constantLong RX4 113 2) (by decide +kernel)) dX4_pace_36 ?_
      refine lv_aload_n hx hb dX4_pace_39 rfl (lv_at hl 1 rfl) ?_
      have hPc := hP.sub (ws' := [(qy, .inr (4, [.ref qy1, .ref qy2, .ref qy3, .ref qy4, .int zM, .ref qy5, .ref qy6, .int zH, .ref qy7, .int zT, .long bg])), (qy1, .inl (cI, 40, .inl Mt)), (qy2, .inl (cI, 40, .inl Ms)), (qy3, .inl (cI, 40, .inl Mf)), (qy4, .inl (cI, 40, .inl Ml)), (qy5, .inl (cI, 20, .inl Ht)), (qy6, .inl (cI, 20, .inl Hu)), (qy7, .inl (cL, 40, .inr (.inl Tp)))]) [0, 1, 2, 3, 4, 5, 6, 7] rfl
      have hDc := hD.sub (ws' := [(qy, .inr (4, [.ref qy1, .ref qy2, .ref qy3, .ref qy4, .int zM, .ref qy5, .ref qy6, .int zH, .ref qy7, .int zT, .long bg])), (qy1, .inl (cI, 40, .inl Mt)), (qy2, .inl (cI, 40, .inl Ms)), (qy3, .inl (cI, 40, .inl Mf)), (qy4, .inl (cI, 40, .inl Ml)), (qy5, .inl (cI, 20, .inl Ht)), (qy6, .inl (cI, 20, .inl Hu)), (qy7, .inl (cL, 40, .inr (.inl Tp)))]) [0, 1, 2, 3, 4, 5, 6, 7] (by decide) rfl
      have hcc := (ct_X4_above l G cI cL H.size qy qy1 qy2 qy3 qy4 qy5 qy6 qy7 zM zH zT bg Mt Ms Mf Ml Ht Hu Tp nm hnM hOM nh hnH hOH nt hnT hOT)
      refine ro_calll (va_runV (As := []) (rest := [.long 2]) ⟨hx, hb, hml, hown, hts⟩ hcc (cwV 0 hts gX4_pace_X4_above rfl rfl rfl (by decide +kernel) ⟨Nat.le_of_ble_eq_true rfl, Nat.le_of_ble_eq_true rfl⟩) ⟨pre_blind, va_recv hK hPc (ci := 4) (q0 := 0) rfl rfl, pre_pass hK hN hPc hDc⟩ rfl rfl hl.1 rfl (lv_room (Nat.le_of_ble_eq_true rfl)) dX4_pace_40 ⟨Nat.le_of_ble_eq_true rfl, Nat.le_of_ble_eq_true rfl⟩) hP hD hS hA [0, 1, 2, 3, 4, 5, 6, 7] rfl (fun r40 H locs hw40 hP hS => ?_)
      try dsimp only at hw40
      refine lv_lmul hx hb dX4_pace_43 ?_
      refine lv_topl (fun x43 ex43 => ?_)
      have tx43 : x43.toInt = 2 * r40.toInt := by rw [ex43]; exact tl_mul (show ((2 : Int64)).toInt = 2 by decide) rfl (by omega) (by omega)
      refine lv_lload_n hx hb dX4_pace_44 rfl (lv_at hl 0 rfl) ?_
      refine lv_lsub hx hb dX4_pace_45 ?_
      refine lv_topl (fun x45 ex45 => ?_)
      have tx45 : x45.toInt = x43.toInt - x34.toInt := by rw [ex45]; exact tl_sub rfl rfl (by omega) (by omega)
      refine lv_lstore (lv' := [(4, .long x45), (2, .long x34), (0, .ref qy), (1, .int p0)]) hx hb dX4_pace_46  hl (by decide) rfl (fun ls hl => ?_)
      refine lv_lload hx hb dX4_pace_48 (lv_at hl 0 rfl) ?_
      refine lv_lconst (v := 0) hx hb dX4_pace_50 (by decide) ?_
      refine W.lcmp hx hb dX4_pace_51 ?_
      refine lv_if_gt (tgt := 59) hx hb dX4_pace_52 (by decide) (fun c52 => ?_) (fun c52 => ?_)
      · have k52 : (0 : Int) < x45.toInt := l_lt (show ((0 : Int64)).toInt = 0 by decide) rfl ((lg_cmp_gt _ _).mp c52)
        have kk := k52
        refine lv_lload hx hb dX4_pace_59 (lv_at hl 0 rfl) ?_
        refine lv_ldc2 (v := 2) hx hb hown (hts (.constantLong RX4 113 2) (by decide +kernel)) dX4_pace_61 ?_
        refine lv_lload_n hx hb dX4_pace_64 rfl (lv_at hl 1 rfl) ?_
        refine lv_lmul hx hb dX4_pace_65 ?_
        refine lv_topl (fun x65 ex65 => ?_)
        have tx65 : x65.toInt = 2 * x34.toInt := by rw [ex65]; exact tl_mul (show ((2 : Int64)).toInt = 2 by decide) rfl (by omega) (by omega)
        refine lv_ladd hx hb dX4_pace_66 ?_
        refine lv_topl (fun x66 ex66 => ?_)
        have tx66 : x66.toInt = x45.toInt + x65.toInt := by rw [ex66]; exact tl_add rfl rfl (by omega) (by omega)
        refine lv_lconst (v := 1) hx hb dX4_pace_67 (by decide) ?_
        refine lv_lsub hx hb dX4_pace_68 ?_
        refine lv_topl (fun x68 ex68 => ?_)
        have tx68 : x68.toInt = x66.toInt - 1 := by rw [ex68]; exact tl_sub rfl (show ((1 : Int64)).toInt = 1 by decide) (by omega) (by omega)
        refine lv_ldc2 (v := 2) hx hb hown (hts (.constantLong RX4 113 2) (by decide +kernel)) dX4_pace_69 ?_
        refine lv_lload_n hx hb dX4_pace_72 rfl (lv_at hl 1 rfl) ?_
        refine lv_lmul hx hb dX4_pace_73 ?_
        refine lv_topl (fun x73 ex73 => ?_)
        have tx73 : x73.toInt = 2 * x34.toInt := by rw [ex73]; exact tl_mul (show ((2 : Int64)).toInt = 2 by decide) rfl (by omega) (by omega)
        refine lv_ldiv hx hb dX4_pace_74 (l_ne0 rfl (by omega)) ?_
        refine lv_topl (fun x74 ex74 => ?_)
        have tx74 : x74.toInt = x68.toInt / x73.toInt := by rw [ex74]; exact tl_div rfl rfl (by omega) (by omega)
        exact W.lret (v := x74) hx hb hr (fun t ht hW => ⟨⟨x74, (), rfl, (by (try dsimp only); exact (by first | exact Or.inr (Or.inr ⟨by omega, by omega, by rw [← e34, zl0]; exact near_0 (by omega) (by omega) (by omega)⟩) | exact Or.inr (Or.inr ⟨by omega, by omega, by rw [← e34, tx74, tx73, show x68.toInt = 2 * (6 * sD Tp nt nt) - x34.toInt + 2 * x34.toInt - 1 by omega]; exact near_c (by omega)⟩))), by rw [ht]; exact hP, hD⟩, hS.F ht⟩) hS.2.2 dX4_pace_75
      · have k52 : (x45.toInt : Int) ≤ 0 := l_nlt (show ((0 : Int64)).toInt = 0 by decide) rfl (fun h9 => c52 ((lg_cmp_gt _ _).mpr h9))
        have kk := k52
        refine lv_lconst (v := 0) hx hb dX4_pace_55 (by decide) ?_
        refine lv_goto (tgt := 75) hx hb dX4_pace_56 (by decide) ?_
        exact W.lret (v := 0) hx hb hr (fun t ht hW => ⟨⟨0, (), rfl, (by (try dsimp only); exact (by first | exact Or.inr (Or.inr ⟨by omega, by omega, by rw [← e34, zl0]; exact near_0 (by omega) (by omega) (by omega)⟩) | exact Or.inr (Or.inr ⟨by omega, by omega, by rw [← e34, tx74, tx73, show x68.toInt = 2 * (6 * sD Tp nt nt) - x34.toInt + 2 * x34.toInt - 1 by omega]; exact near_c (by omega)⟩))), by rw [ht]; exact hP, hD⟩, hS.F ht⟩) hS.2.2 dX4_pace_75
    · have k21 : (zT.toInt : Int) < 2 := i_nle (show ((2 : Int32)).toInt = 2 by decide) rfl c21
      refine lv_ldc2 (v := (-3)) hx hb hown (hts (.constantLong RX4 117 (-3)) (by decide +kernel)) dX4_pace_24 ?_
      exact W.lret (v := (-3)) hx hb hr (fun t ht hW => ⟨⟨(-3), (), rfl, (by (try dsimp only); exact (Or.inr (Or.inl ⟨by omega, by omega, by omega⟩))), by rw [ht]; exact hP, hD⟩, hS.F ht⟩) hS.2.2 dX4_pace_27
  · have k9 : (r6.toInt : Int) = 0 := i_eq rfl (show ((0 : Int32)).toInt = 0 by decide) c9
    refine lv_ldc2 (v := (-2)) hx hb hown (hts (.constantLong RX4 86 (-2)) (by decide +kernel)) dX4_pace_12 ?_
    exact W.lret (v := (-2)) hx hb hr (fun t ht hW => ⟨⟨(-2), (), rfl, (by (try dsimp only); exact (Or.inl ⟨by omega, by omega⟩)), by rw [ht]; exact hP, hD⟩, hS.F ht⟩) hS.2.2 dX4_pace_15

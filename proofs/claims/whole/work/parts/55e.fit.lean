set_option maxHeartbeats 1000000 in
set_option maxRecDepth 100000 in
theorem ct_X4_fit (l : Launch) (G : va_G) (cI cL : ClassId) (sz : Nat) (qy : Nat) (qy1 : Nat) (qy2 : Nat) (qy3 : Nat) (qy4 : Nat) (qy5 : Nat) (qy6 : Nat) (qy7 : Nat) (zM : Int32) (zH : Int32) (zT : Int32) (bg : Int64) (Mt : Nat → Int32) (Ms : Nat → Int32) (Mf : Nat → Int32) (Ml : Nat → Int32) (Ht : Nat → Int32) (Hu : Nat → Int32) (Tp : Nat → Int64) (p0 : Int32) (nm : Nat) (hnM : zM.toInt = nm) (hOM : okM nm Mt Ms Mf Ml) (nh : Nat) (hnH : zH.toInt = nh) (hOH : okH nh Ht Hu) (nt : Nat) (hnT : zT.toInt = nt) (hOT : okT nt Tp) : Met l yX4_fit wsX4_fit ({ frames := 1, cells := 0, slots := 0, locals := 29 }) (va_Pc [.ref qy, .int p0] (pre0 G cI cL [(qy, .inr (4, [.ref qy1, .ref qy2, .ref qy3, .ref qy4, .int zM, .ref qy5, .ref qy6, .int zH, .ref qy7, .int zT, .long bg])), (qy1, .inl (cI, 40, .inl Mt)), (qy2, .inl (cI, 40, .inl Ms)), (qy3, .inl (cI, 40, .inl Mf)), (qy4, .inl (cI, 40, .inl Ml)), (qy5, .inl (cI, 20, .inl Ht)), (qy6, .inl (cI, 20, .inl Hu)), (qy7, .inl (cL, 40, .inr (.inl Tp)))] sz)) (va_Ql (fun (r : Int64) (u : Unit) => ((p0.toInt ≠ 0 ∧ p0.toInt ≠ 1) ∧ r.toInt = -2) ∨ ((p0.toInt = 0 ∨ p0.toInt = 1) ∧ nt < 2 ∧ r.toInt = -3) ∨ (2 ≤ nt ∧ fitS (6 * sD Tp nt nt) ((nt : Int) * ((nt : Int) * nt - 1)) p0.toInt r.toInt)) (fun (u : Unit) t => va_P G vwCl [(qy, .inr (4, [.ref qy1, .ref qy2, .ref qy3, .ref qy4, .int zM, .ref qy5, .ref qy6, .int zH, .ref qy7, .int zT, .long bg])), (qy1, .inl (cI, 40, .inl Mt)), (qy2, .inl (cI, 40, .inl Ms)), (qy3, .inl (cI, 40, .inl Mf)), (qy4, .inl (cI, 40, .inl Ml)), (qy5, .inl (cI, 20, .inl Ht)), (qy6, .inl (cI, 20, .inl Hu)), (qy7, .inl (cL, 40, .inr (.inl Tp)))] t.heap ∧ va_D (va_A [(qy, .inr (4, [.ref qy1, .ref qy2, .ref qy3, .ref qy4, .int zM, .ref qy5, .ref qy6, .int zH, .ref qy7, .int zT, .long bg])), (qy1, .inl (cI, 40, .inl Mt)), (qy2, .inl (cI, 40, .inl Ms)), (qy3, .inl (cI, 40, .inl Mf)), (qy4, .inl (cI, 40, .inl Ml)), (qy5, .inl (cI, 20, .inl Ht)), (qy6, .inl (cI, 20, .inl Hu)), (qy7, .inl (cL, 40, .inr (.inl Tp)))] sz) [(qy, .inr (4, [.ref qy1, .ref qy2, .ref qy3, .ref qy4, .int zM, .ref qy5, .ref qy6, .int zH, .ref qy7, .int zT, .long bg])), (qy1, .inl (cI, 40, .inl Mt)), (qy2, .inl (cI, 40, .inl Ms)), (qy3, .inl (cI, 40, .inl Mf)), (qy4, .inl (cI, 40, .inl Ml)), (qy5, .inl (cI, 20, .inl Ht)), (qy6, .inl (cI, 20, .inl Hu)), (qy7, .inl (cL, 40, .inr (.inl Tp)))]) (va_A [(qy, .inr (4, [.ref qy1, .ref qy2, .ref qy3, .ref qy4, .int zM, .ref qy5, .ref qy6, .int zH, .ref qy7, .int zT, .long bg])), (qy1, .inl (cI, 40, .inl Mt)), (qy2, .inl (cI, 40, .inl Ms)), (qy3, .inl (cI, 40, .inl Mf)), (qy4, .inl (cI, 40, .inl Ml)), (qy5, .inl (cI, 20, .inl Ht)), (qy6, .inl (cI, 20, .inl Hu)), (qy7, .inl (cL, 40, .inr (.inl Tp)))] sz)) 0 0 (va_A [(qy, .inr (4, [.ref qy1, .ref qy2, .ref qy3, .ref qy4, .int zM, .ref qy5, .ref qy6, .int zH, .ref qy7, .int zT, .long bg])), (qy1, .inl (cI, 40, .inl Mt)), (qy2, .inl (cI, 40, .inl Ms)), (qy3, .inl (cI, 40, .inl Mf)), (qy4, .inl (cI, 40, .inl Ml)), (qy5, .inl (cI, 20, .inl Ht)), (qy6, .inl (cI, 20, .inl Hu)), (qy7, .inl (cL, 40, .inr (.inl Tp)))] sz) := by
  refine Met.ofW (cc := cX4_fit) (maxL := 4) (ret := (some .long)) (by decide) rfl ?_
  intro p e s m args below meth c s₁ B hml hv
  obtain ⟨rfl, hsz, hP, hK, hD0, hN⟩ := hv
  have hx := B.exec
  have hb := B.bytes
  have hr := B.returns
  have hts := atoms_spec (ws := wsX4_fit) B.pre
  have hown : s.vm.findClass RX4 = some m.cls := findClass_of_methodNamed B.named
  have hlocks := B.notSynchronized
  subst hsz
  have hD := hD0.self (sz := s.heap.size)
  generalize hAe : va_A [(qy, .inr (4, [.ref qy1, .ref qy2, .ref qy3, .ref qy4, .int zM, .ref qy5, .ref qy6, .int zH, .ref qy7, .int zT, .long bg])), (qy1, .inl (cI, 40, .inl Mt)), (qy2, .inl (cI, 40, .inl Ms)), (qy3, .inl (cI, 40, .inl Mf)), (qy4, .inl (cI, 40, .inl Ml)), (qy5, .inl (cI, 20, .inl Ht)), (qy6, .inl (cI, 20, .inl Hu)), (qy7, .inl (cL, 40, .inr (.inl Tp)))] s.heap.size = A at hD ⊢
  have hA : ∀ q : Nat, s.heap.size ≤ q → A q := fun q h => by rw [← hAe]; exact Or.inr h
  have hP : va_P G vwCl [(qy, .inr (4, [.ref qy1, .ref qy2, .ref qy3, .ref qy4, .int zM, .ref qy5, .ref qy6, .int zH, .ref qy7, .int zT, .long bg])), (qy1, .inl (cI, 40, .inl Mt)), (qy2, .inl (cI, 40, .inl Ms)), (qy3, .inl (cI, 40, .inl Mf)), (qy4, .inl (cI, 40, .inl Ml)), (qy5, .inl (cI, 20, .inl Ht)), (qy6, .inl (cI, 20, .inl Hu)), (qy7, .inl (cL, 40, .inr (.inl Tp)))] s.heap := hP
  have hl := lv_entry ([.ref qy, .int p0]) (n := 4) (Nat.le_of_ble_eq_true rfl)
  rw [lg_entry_eq]
  generalize (lg_sl ([.ref qy, .int p0]) ++ List.replicate (4 - (lg_sl ([.ref qy, .int p0])).length) Slot.unset).toArray = ls at hl ⊢
  have hl : lv_has ls 4 [(0, .ref qy), (1, .int p0)] := hl
  have hf77 := hts (.fieldLink RX4 77 "TempoMapsModel" "tapMany" "I") (by decide +kernel)
  have hiX4 : ∀ w ∈ wsX40, w ∈ wsX4_fit := by decide +kernel
  have zi2 : ((2 : Int32)).toInt = 2 := by decide
  have zlm3 : ((-3 : Int64)).toInt = -3 := by decide
  have zlm2 : ((-2 : Int64)).toInt = -2 := by decide
  have zl0 : ((0 : Int64)).toInt = 0 := by decide
  have zl1 : ((1 : Int64)).toInt = 1 := by decide
  refine w_h (A := A) hP (fun H locs hP hS => ?_)
  have hn40 := hOM.1
  have hrg := hOM.2.1
  have hn20 := hOH.1
  have hrh := hOH.2.1
  have hn41 := hOT.1
  have hrt := hOT.2.1
  have zz0 : ((0 : Int32)).toInt = 0 := by decide
  have dn := sD_nn nt hOT.2.2
  rw [← sD_eq] at dn
  have ar := abv_rng hOT
  have a2 := abv_two (f := Tp) nt
  rw [← sD_eq] at a2
  have br := blw_all nt (by omega)
  refine lv_iload_n hx hb dX4_fit_0 rfl (lv_at hl 1 rfl) ?_
  refine lv_i2l hx hb dX4_fit_1 rfl ?_
  refine lv_topl (fun x1 ex1 => ?_)
  have tx1 : x1.toInt = p0.toInt := by rw [ex1]; exact tc_i2l rfl
  refine lv_lconst (v := 0) hx hb dX4_fit_2 (by decide) ?_
  refine lv_lconst (v := 1) hx hb dX4_fit_3 (by decide) ?_
  have hPc := hP.sub (ws' := ([] : va_W)) [] rfl
  have hDc := hD.sub (ws' := ([] : va_W)) [] (by decide) rfl
  have hcc := (ct_X4_in l G cI cL H.size x1 0 1)
  refine ro_calli (va_runS (As := [.long x1, .long 0, .long 1]) (rest := []) ⟨hx, hb, hml, hown, hts⟩ hcc (va_cwS 3 hts gX4_fit_X4_in rfl rfl rfl (by decide +kernel) ⟨Nat.le_of_ble_eq_true rfl, Nat.le_of_ble_eq_true rfl⟩) ⟨pre_blind, pre_pass hK hN hPc hDc⟩ rfl rfl hl.1 rfl (lv_room (Nat.le_of_ble_eq_true rfl)) dX4_fit_4 ⟨Nat.le_of_ble_eq_true rfl, Nat.le_of_ble_eq_true rfl⟩) hP hD hS hA [] rfl (fun r4 H locs hw4 hP hS => ?_)
  try dsimp only at hw4
  refine lv_if_ne (tgt := 14) hx hb dX4_fit_7 (by decide) (fun c7 => ?_) (fun c7 => ?_)
  · have k7 : (r4.toInt : Int) ≠ 0 := i_ne rfl (show ((0 : Int32)).toInt = 0 by decide) c7
    refine lv_aload_n hx hb dX4_fit_14 rfl (lv_at hl 0 rfl) ?_
    refine va_get (D := G) (ci := 4) (v := .int zT) (C := RX4) (T := TX4) (N := 11) hx hb hts hiX4 hown hK hP 0 rfl rfl 9 (by decide) hf77 (fun _ h9 => h9) rfl dX4_fit_15 ?_
    refine lv_iconst (v := 2) hx hb dX4_fit_18 (by decide) ?_
    refine lv_icmp_ge (tgt := 26) hx hb dX4_fit_19 (by decide) (fun c19 => ?_) (fun c19 => ?_)
    · have k19 : (2 : Int) ≤ zT.toInt := i_le (show ((2 : Int32)).toInt = 2 by decide) rfl c19
      have hb8 : 1 ≤ (nt : Int) * ((nt : Int) * nt - 1) ∧ (nt : Int) * ((nt : Int) * nt - 1) ≤ 64000 := by
        have h1 := mul_bnd (show 0 ≤ (nt : Int) ∧ (nt : Int) ≤ 40 by omega) (show 0 ≤ (nt : Int) ∧ (nt : Int) ≤ 40 by omega)
        have h2 : 2 * 2 ≤ (nt : Int) * nt := Int.mul_le_mul (by omega) (by omega) (by omega) (by omega)
        have h3 := mul_ge1 (a := (nt : Int)) (b := (nt : Int) * nt - 1) (by omega) (by omega)
        have h4 := mul_bnd (show 0 ≤ (nt : Int) ∧ (nt : Int) ≤ 40 by omega) (show 0 ≤ (nt : Int) * nt - 1 ∧ (nt : Int) * nt - 1 ≤ 1600 by omega)
        omega
      have da : 6 * sD Tp nt nt ≤ 1000000000000000000 := by
        have h1 : 2 * sD Tp nt nt ≤ nt * sD Tp nt nt := Int.mul_le_mul_of_nonneg_right (by omega) dn
        omega
      refine lv_aload_n hx hb dX4_fit_26 rfl (lv_at hl 0 rfl) ?_
      have hPc := hP.sub (ws' := [(qy, .inr (4, [.ref qy1, .ref qy2, .ref qy3, .ref qy4, .int zM, .ref qy5, .ref qy6, .int zH, .ref qy7, .int zT, .long bg])), (qy1, .inl (cI, 40, .inl Mt)), (qy2, .inl (cI, 40, .inl Ms)), (qy3, .inl (cI, 40, .inl Mf)), (qy4, .inl (cI, 40, .inl Ml)), (qy5, .inl (cI, 20, .inl Ht)), (qy6, .inl (cI, 20, .inl Hu)), (qy7, .inl (cL, 40, .inr (.inl Tp)))]) [0, 1, 2, 3, 4, 5, 6, 7] rfl
      have hDc := hD.sub (ws' := [(qy, .inr (4, [.ref qy1, .ref qy2, .ref qy3, .ref qy4, .int zM, .ref qy5, .ref qy6, .int zH, .ref qy7, .int zT, .long bg])), (qy1, .inl (cI, 40, .inl Mt)), (qy2, .inl (cI, 40, .inl Ms)), (qy3, .inl (cI, 40, .inl Mf)), (qy4, .inl (cI, 40, .inl Ml)), (qy5, .inl (cI, 20, .inl Ht)), (qy6, .inl (cI, 20, .inl Hu)), (qy7, .inl (cL, 40, .inr (.inl Tp)))]) [0, 1, 2, 3, 4, 5, 6, 7] (by decide) rfl
      have hcc := (ct_X4_above l G cI cL H.size qy qy1 qy2 qy3 qy4 qy5 qy6 qy7 zM zH zT bg Mt Ms Mf Ml Ht Hu Tp nm hnM hOM nh hnH hOH nt hnT hOT)
      refine ro_calll (va_runV (As := []) (rest := []) ⟨hx, hb, hml, hown, hts⟩ hcc (cwV 0 hts gX4_fit_X4_above rfl rfl rfl (by decide +kernel) ⟨Nat.le_of_ble_eq_true rfl, Nat.le_of_ble_eq_true rfl⟩) ⟨pre_blind, va_recv hK hPc (ci := 4) (q0 := 0) rfl rfl, pre_pass hK hN hPc hDc⟩ rfl rfl hl.1 rfl (lv_room (Nat.le_of_ble_eq_true rfl)) dX4_fit_27 ⟨Nat.le_of_ble_eq_true rfl, Nat.le_of_ble_eq_true rfl⟩) hP hD hS hA [0, 1, 2, 3, 4, 5, 6, 7] rfl (fun r27 H locs hw27 hP hS => ?_)
      try dsimp only at hw27
      refine lv_aload_n hx hb dX4_fit_30 rfl (lv_at hl 0 rfl) ?_
      have hPc := hP.sub (ws' := [(qy, .inr (4, [.ref qy1, .ref qy2, .ref qy3, .ref qy4, .int zM, .ref qy5, .ref qy6, .int zH, .ref qy7, .int zT, .long bg])), (qy1, .inl (cI, 40, .inl Mt)), (qy2, .inl (cI, 40, .inl Ms)), (qy3, .inl (cI, 40, .inl Mf)), (qy4, .inl (cI, 40, .inl Ml)), (qy5, .inl (cI, 20, .inl Ht)), (qy6, .inl (cI, 20, .inl Hu)), (qy7, .inl (cL, 40, .inr (.inl Tp)))]) [0, 1, 2, 3, 4, 5, 6, 7] rfl
      have hDc := hD.sub (ws' := [(qy, .inr (4, [.ref qy1, .ref qy2, .ref qy3, .ref qy4, .int zM, .ref qy5, .ref qy6, .int zH, .ref qy7, .int zT, .long bg])), (qy1, .inl (cI, 40, .inl Mt)), (qy2, .inl (cI, 40, .inl Ms)), (qy3, .inl (cI, 40, .inl Mf)), (qy4, .inl (cI, 40, .inl Ml)), (qy5, .inl (cI, 20, .inl Ht)), (qy6, .inl (cI, 20, .inl Hu)), (qy7, .inl (cL, 40, .inr (.inl Tp)))]) [0, 1, 2, 3, 4, 5, 6, 7] (by decide) rfl
      have hcc := (ct_X4_below l G cI cL H.size qy qy1 qy2 qy3 qy4 qy5 qy6 qy7 zM zH zT bg Mt Ms Mf Ml Ht Hu Tp nm hnM hOM nh hnH hOH nt hnT hOT)
      refine ro_calll (va_runV (As := []) (rest := [.long r27]) ⟨hx, hb, hml, hown, hts⟩ hcc (cwV 0 hts gX4_fit_X4_below rfl rfl rfl (by decide +kernel) ⟨Nat.le_of_ble_eq_true rfl, Nat.le_of_ble_eq_true rfl⟩) ⟨pre_blind, va_recv hK hPc (ci := 4) (q0 := 0) rfl rfl, pre_pass hK hN hPc hDc⟩ rfl rfl hl.1 rfl (lv_room (Nat.le_of_ble_eq_true rfl)) dX4_fit_31 ⟨Nat.le_of_ble_eq_true rfl, Nat.le_of_ble_eq_true rfl⟩) hP hD hS hA [0, 1, 2, 3, 4, 5, 6, 7] rfl (fun r31 H locs hw31 hP hS => ?_)
      try dsimp only at hw31
      have hPc := hP.sub (ws' := ([] : va_W)) [] rfl
      have hDc := hD.sub (ws' := ([] : va_W)) [] (by decide) rfl
      have hcc := (ct_X4_common l G cI cL H.size r27 r31 (by omega) (by omega))
      refine ro_calll (va_runS (As := [.long r27, .long r31]) (rest := []) ⟨hx, hb, hml, hown, hts⟩ hcc (va_cwS 2 hts gX4_fit_X4_common rfl rfl rfl (by decide +kernel) ⟨Nat.le_of_ble_eq_true rfl, Nat.le_of_ble_eq_true rfl⟩) ⟨pre_blind, pre_pass hK hN hPc hDc⟩ rfl rfl hl.1 rfl (lv_room (Nat.le_of_ble_eq_true rfl)) dX4_fit_34 ⟨Nat.le_of_ble_eq_true rfl, Nat.le_of_ble_eq_true rfl⟩) hP hD hS hA [] rfl (fun r34 H locs hw34 hP hS => ?_)
      try dsimp only at hw34
      have hg := hw34
      rw [hw27, hw31] at hg
      have gp : 0 < Nat.gcd (6 * sD Tp nt nt).toNat ((nt : Int) * ((nt : Int) * nt - 1)).toNat := Nat.gcd_pos_of_pos_right _ (by omega)
      refine lv_lstore_n (lv' := [(2, .long r34), (0, .ref qy), (1, .int p0)]) hx hb dX4_fit_37 rfl hl (by decide) rfl (fun ls hl => ?_)
      refine lv_iload_n hx hb dX4_fit_38 rfl (lv_at hl 2 rfl) ?_
      refine lv_if_ne (tgt := 51) hx hb dX4_fit_39 (by decide) (fun c39 => ?_) (fun c39 => ?_)
      · have k39 : (p0.toInt : Int) ≠ 0 := i_ne rfl (show ((0 : Int32)).toInt = 0 by decide) c39
        refine lv_aload_n hx hb dX4_fit_51 rfl (lv_at hl 1 rfl) ?_
        have hPc := hP.sub (ws' := [(qy, .inr (4, [.ref qy1, .ref qy2, .ref qy3, .ref qy4, .int zM, .ref qy5, .ref qy6, .int zH, .ref qy7, .int zT, .long bg])), (qy1, .inl (cI, 40, .inl Mt)), (qy2, .inl (cI, 40, .inl Ms)), (qy3, .inl (cI, 40, .inl Mf)), (qy4, .inl (cI, 40, .inl Ml)), (qy5, .inl (cI, 20, .inl Ht)), (qy6, .inl (cI, 20, .inl Hu)), (qy7, .inl (cL, 40, .inr (.inl Tp)))]) [0, 1, 2, 3, 4, 5, 6, 7] rfl
        have hDc := hD.sub (ws' := [(qy, .inr (4, [.ref qy1, .ref qy2, .ref qy3, .ref qy4, .int zM, .ref qy5, .ref qy6, .int zH, .ref qy7, .int zT, .long bg])), (qy1, .inl (cI, 40, .inl Mt)), (qy2, .inl (cI, 40, .inl Ms)), (qy3, .inl (cI, 40, .inl Mf)), (qy4, .inl (cI, 40, .inl Ml)), (qy5, .inl (cI, 20, .inl Ht)), (qy6, .inl (cI, 20, .inl Hu)), (qy7, .inl (cL, 40, .inr (.inl Tp)))]) [0, 1, 2, 3, 4, 5, 6, 7] (by decide) rfl
        have hcc := (ct_X4_below l G cI cL H.size qy qy1 qy2 qy3 qy4 qy5 qy6 qy7 zM zH zT bg Mt Ms Mf Ml Ht Hu Tp nm hnM hOM nh hnH hOH nt hnT hOT)
        refine ro_calll (va_runV (As := []) (rest := []) ⟨hx, hb, hml, hown, hts⟩ hcc (cwV 0 hts gX4_fit_X4_below rfl rfl rfl (by decide +kernel) ⟨Nat.le_of_ble_eq_true rfl, Nat.le_of_ble_eq_true rfl⟩) ⟨pre_blind, va_recv hK hPc (ci := 4) (q0 := 0) rfl rfl, pre_pass hK hN hPc hDc⟩ rfl rfl hl.1 rfl (lv_room (Nat.le_of_ble_eq_true rfl)) dX4_fit_52 ⟨Nat.le_of_ble_eq_true rfl, Nat.le_of_ble_eq_true rfl⟩) hP hD hS hA [0, 1, 2, 3, 4, 5, 6, 7] rfl (fun r52 H locs hw52 hP hS => ?_)
        try dsimp only at hw52
        refine lv_lload_n hx hb dX4_fit_55 rfl (lv_at hl 0 rfl) ?_
        refine lv_ldiv hx hb dX4_fit_56 (l_ne0 rfl (by omega)) ?_
        refine lv_topl (fun x56 ex56 => ?_)
        have tx56 : x56.toInt = r52.toInt / r34.toInt := by rw [ex56]; exact tl_div rfl rfl (by omega) (by omega)
        exact W.lret (v := x56) hx hb hr (fun t ht hW => ⟨⟨x56, (), rfl, (by (try dsimp only); exact (by first | exact Or.inr (Or.inr ⟨by omega, Or.inl ⟨by omega, by rw [tx47, hg, hw43]⟩⟩) | exact Or.inr (Or.inr ⟨by omega, Or.inr ⟨by omega, by rw [tx56, hg, hw52]⟩⟩))), by rw [ht]; exact hP, hD⟩, hS.F ht⟩) hS.2.2 dX4_fit_57
      · have k39 : (p0.toInt : Int) = 0 := i_eq rfl (show ((0 : Int32)).toInt = 0 by decide) c39
        refine lv_aload_n hx hb dX4_fit_42 rfl (lv_at hl 1 rfl) ?_
        have hPc := hP.sub (ws' := [(qy, .inr (4, [.ref qy1, .ref qy2, .ref qy3, .ref qy4, .int zM, .ref qy5, .ref qy6, .int zH, .ref qy7, .int zT, .long bg])), (qy1, .inl (cI, 40, .inl Mt)), (qy2, .inl (cI, 40, .inl Ms)), (qy3, .inl (cI, 40, .inl Mf)), (qy4, .inl (cI, 40, .inl Ml)), (qy5, .inl (cI, 20, .inl Ht)), (qy6, .inl (cI, 20, .inl Hu)), (qy7, .inl (cL, 40, .inr (.inl Tp)))]) [0, 1, 2, 3, 4, 5, 6, 7] rfl
        have hDc := hD.sub (ws' := [(qy, .inr (4, [.ref qy1, .ref qy2, .ref qy3, .ref qy4, .int zM, .ref qy5, .ref qy6, .int zH, .ref qy7, .int zT, .long bg])), (qy1, .inl (cI, 40, .inl Mt)), (qy2, .inl (cI, 40, .inl Ms)), (qy3, .inl (cI, 40, .inl Mf)), (qy4, .inl (cI, 40, .inl Ml)), (qy5, .inl (cI, 20, .inl Ht)), (qy6, .inl (cI, 20, .inl Hu)), (qy7, .inl (cL, 40, .inr (.inl Tp)))]) [0, 1, 2, 3, 4, 5, 6, 7] (by decide) rfl
        have hcc := (ct_X4_above l G cI cL H.size qy qy1 qy2 qy3 qy4 qy5 qy6 qy7 zM zH zT bg Mt Ms Mf Ml Ht Hu Tp nm hnM hOM nh hnH hOH nt hnT hOT)
        refine ro_calll (va_runV (As := []) (rest := []) ⟨hx, hb, hml, hown, hts⟩ hcc (cwV 0 hts gX4_fit_X4_above rfl rfl rfl (by decide +kernel) ⟨Nat.le_of_ble_eq_true rfl, Nat.le_of_ble_eq_true rfl⟩) ⟨pre_blind, va_recv hK hPc (ci := 4) (q0 := 0) rfl rfl, pre_pass hK hN hPc hDc⟩ rfl rfl hl.1 rfl (lv_room (Nat.le_of_ble_eq_true rfl)) dX4_fit_43 ⟨Nat.le_of_ble_eq_true rfl, Nat.le_of_ble_eq_true rfl⟩) hP hD hS hA [0, 1, 2, 3, 4, 5, 6, 7] rfl (fun r43 H locs hw43 hP hS => ?_)
        try dsimp only at hw43
        refine lv_lload_n hx hb dX4_fit_46 rfl (lv_at hl 0 rfl) ?_
        refine lv_ldiv hx hb dX4_fit_47 (l_ne0 rfl (by omega)) ?_
        refine lv_topl (fun x47 ex47 => ?_)
        have tx47 : x47.toInt = r43.toInt / r34.toInt := by rw [ex47]; exact tl_div rfl rfl (by omega) (by omega)
        refine lv_goto (tgt := 57) hx hb dX4_fit_48 (by decide) ?_
        exact W.lret (v := x47) hx hb hr (fun t ht hW => ⟨⟨x47, (), rfl, (by (try dsimp only); exact (by first | exact Or.inr (Or.inr ⟨by omega, Or.inl ⟨by omega, by rw [tx47, hg, hw43]⟩⟩) | exact Or.inr (Or.inr ⟨by omega, Or.inr ⟨by omega, by rw [tx56, hg, hw52]⟩⟩))), by rw [ht]; exact hP, hD⟩, hS.F ht⟩) hS.2.2 dX4_fit_57
    · have k19 : (zT.toInt : Int) < 2 := i_nle (show ((2 : Int32)).toInt = 2 by decide) rfl c19
      refine lv_ldc2 (v := (-3)) hx hb hown (hts (.constantLong RX4 117 (-3)) (by decide +kernel)) dX4_fit_22 ?_
      exact W.lret (v := (-3)) hx hb hr (fun t ht hW => ⟨⟨(-3), (), rfl, (by (try dsimp only); exact (Or.inr (Or.inl ⟨by omega, by omega, by omega⟩))), by rw [ht]; exact hP, hD⟩, hS.F ht⟩) hS.2.2 dX4_fit_25
  · have k7 : (r4.toInt : Int) = 0 := i_eq rfl (show ((0 : Int32)).toInt = 0 by decide) c7
    refine lv_ldc2 (v := (-2)) hx hb hown (hts (.constantLong RX4 86 (-2)) (by decide +kernel)) dX4_fit_10 ?_
    exact W.lret (v := (-2)) hx hb hr (fun t ht hW => ⟨⟨(-2), (), rfl, (by (try dsimp only); exact (Or.inl ⟨by omega, by omega⟩)), by rw [ht]; exact hP, hD⟩, hS.F ht⟩) hS.2.2 dX4_fit_13

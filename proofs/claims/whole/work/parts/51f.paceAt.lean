set_option maxHeartbeats 1000000 in
set_option maxRecDepth 100000 in
theorem ct_X4_paceAt (l : Launch) (G : va_G) (cI cL : ClassId) (sz : Nat) (qy : Nat) (qy1 : Nat) (qy2 : Nat) (qy3 : Nat) (qy4 : Nat) (qy5 : Nat) (qy6 : Nat) (qy7 : Nat) (zM : Int32) (zH : Int32) (zT : Int32) (bg : Int64) (Mt : Nat → Int32) (Ms : Nat → Int32) (Mf : Nat → Int32) (Ml : Nat → Int32) (Ht : Nat → Int32) (Hu : Nat → Int32) (Tp : Nat → Int64) (p0 : Int32) (nm : Nat) (hnM : zM.toInt = nm) (hOM : okM nm Mt Ms Mf Ml) (nh : Nat) (hnH : zH.toInt = nh) (hOH : okH nh Ht Hu) (nt : Nat) (hnT : zT.toInt = nt) (hOT : okT nt Tp) (hp0 : 0 ≤ p0.toInt ∧ p0.toInt ≤ 1000000) : Met l yX4_paceAt wsX4_paceAt ({ frames := 1, cells := 0, slots := 0, locals := 23 }) (va_Pc [.ref qy, .int p0] (pre0 G cI cL [(qy, .inr (4, [.ref qy1, .ref qy2, .ref qy3, .ref qy4, .int zM, .ref qy5, .ref qy6, .int zH, .ref qy7, .int zT, .long bg])), (qy1, .inl (cI, 40, .inl Mt)), (qy2, .inl (cI, 40, .inl Ms)), (qy3, .inl (cI, 40, .inl Mf)), (qy4, .inl (cI, 40, .inl Ml)), (qy5, .inl (cI, 20, .inl Ht)), (qy6, .inl (cI, 20, .inl Hu)), (qy7, .inl (cL, 40, .inr (.inl Tp)))] sz)) (va_Qi (fun (r : Int32) (u : Unit) => r.toInt = paceF Mt Ms Mf Ml nm p0.toInt) (fun (u : Unit) t => va_P G vwCl [(qy, .inr (4, [.ref qy1, .ref qy2, .ref qy3, .ref qy4, .int zM, .ref qy5, .ref qy6, .int zH, .ref qy7, .int zT, .long bg])), (qy1, .inl (cI, 40, .inl Mt)), (qy2, .inl (cI, 40, .inl Ms)), (qy3, .inl (cI, 40, .inl Mf)), (qy4, .inl (cI, 40, .inl Ml)), (qy5, .inl (cI, 20, .inl Ht)), (qy6, .inl (cI, 20, .inl Hu)), (qy7, .inl (cL, 40, .inr (.inl Tp)))] t.heap ∧ va_D (va_A [(qy, .inr (4, [.ref qy1, .ref qy2, .ref qy3, .ref qy4, .int zM, .ref qy5, .ref qy6, .int zH, .ref qy7, .int zT, .long bg])), (qy1, .inl (cI, 40, .inl Mt)), (qy2, .inl (cI, 40, .inl Ms)), (qy3, .inl (cI, 40, .inl Mf)), (qy4, .inl (cI, 40, .inl Ml)), (qy5, .inl (cI, 20, .inl Ht)), (qy6, .inl (cI, 20, .inl Hu)), (qy7, .inl (cL, 40, .inr (.inl Tp)))] sz) [(qy, .inr (4, [.ref qy1, .ref qy2, .ref qy3, .ref qy4, .int zM, .ref qy5, .ref qy6, .int zH, .ref qy7, .int zT, .long bg])), (qy1, .inl (cI, 40, .inl Mt)), (qy2, .inl (cI, 40, .inl Ms)), (qy3, .inl (cI, 40, .inl Mf)), (qy4, .inl (cI, 40, .inl Ml)), (qy5, .inl (cI, 20, .inl Ht)), (qy6, .inl (cI, 20, .inl Hu)), (qy7, .inl (cL, 40, .inr (.inl Tp)))]) (va_A [(qy, .inr (4, [.ref qy1, .ref qy2, .ref qy3, .ref qy4, .int zM, .ref qy5, .ref qy6, .int zH, .ref qy7, .int zT, .long bg])), (qy1, .inl (cI, 40, .inl Mt)), (qy2, .inl (cI, 40, .inl Ms)), (qy3, .inl (cI, 40, .inl Mf)), (qy4, .inl (cI, 40, .inl Ml)), (qy5, .inl (cI, 20, .inl Ht)), (qy6, .inl (cI, 20, .inl Hu)), (qy7, .inl (cL, 40, .inr (.inl Tp)))] sz)) 0 0 (va_A [(qy, .inr (4, [.ref qy1, .ref qy2, .ref qy3, .ref qy4, .int zM, .ref qy5, .ref qy6, .int zH, .ref qy7, .int zT, .long bg])), (qy1, .inl (cI, 40, .inl Mt)), (qy2, .inl (cI, 40, .inl Ms)), (qy3, .inl (cI, 40, .inl Mf)), (qy4, .inl (cI, 40, .inl Ml)), (qy5, .inl (cI, 20, .inl Ht)), (qy6, .inl (cI, 20, .inl Hu)), (qy7, .inl (cL, 40, .inr (.inl Tp)))] sz) := by
  refine Met.ofW (cc := cX4_paceAt) (maxL := 10) (ret := (some .int)) (by decide) rfl ?_
  intro p e s m args below meth c s₁ B hml hv
  obtain ⟨rfl, hsz, hP, hK, hD0, hN⟩ := hv
  have hx := B.exec
  have hb := B.bytes
  have hr := B.returns
  have hts := atoms_spec (ws := wsX4_paceAt) B.pre
  have hown : s.vm.findClass RX4 = some m.cls := findClass_of_methodNamed B.named
  have hlocks := B.notSynchronized
  subst hsz
  have hD := hD0.self (sz := s.heap.size)
  generalize hAe : va_A [(qy, .inr (4, [.ref qy1, .ref qy2, .ref qy3, .ref qy4, .int zM, .ref qy5, .ref qy6, .int zH, .ref qy7, .int zT, .long bg])), (qy1, .inl (cI, 40, .inl Mt)), (qy2, .inl (cI, 40, .inl Ms)), (qy3, .inl (cI, 40, .inl Mf)), (qy4, .inl (cI, 40, .inl Ml)), (qy5, .inl (cI, 20, .inl Ht)), (qy6, .inl (cI, 20, .inl Hu)), (qy7, .inl (cL, 40, .inr (.inl Tp)))] s.heap.size = A at hD ⊢
  have hA : ∀ q : Nat, s.heap.size ≤ q → A q := fun q h => by rw [← hAe]; exact Or.inr h
  have hP : va_P G vwCl [(qy, .inr (4, [.ref qy1, .ref qy2, .ref qy3, .ref qy4, .int zM, .ref qy5, .ref qy6, .int zH, .ref qy7, .int zT, .long bg])), (qy1, .inl (cI, 40, .inl Mt)), (qy2, .inl (cI, 40, .inl Ms)), (qy3, .inl (cI, 40, .inl Mf)), (qy4, .inl (cI, 40, .inl Ml)), (qy5, .inl (cI, 20, .inl Ht)), (qy6, .inl (cI, 20, .inl Hu)), (qy7, .inl (cL, 40, .inr (.inl Tp)))] s.heap := hP
  have hl := lv_entry ([.ref qy, .int p0]) (n := 10) (Nat.le_of_ble_eq_true rfl)
  rw [lg_entry_eq]
  generalize (lg_sl ([.ref qy, .int p0]) ++ List.replicate (10 - (lg_sl ([.ref qy, .int p0])).length) Slot.unset).toArray = ls at hl ⊢
  have hl : lv_has ls 10 [(0, .ref qy), (1, .int p0)] := hl
  have hf7 := hts (.fieldLink RX4 7 "TempoMapsModel" "markTick" "[I") (by decide +kernel)
  have hf13 := hts (.fieldLink RX4 13 "TempoMapsModel" "markLong" "[I") (by decide +kernel)
  have hf19 := hts (.fieldLink RX4 19 "TempoMapsModel" "markTo" "[I") (by decide +kernel)
  have hf16 := hts (.fieldLink RX4 16 "TempoMapsModel" "markFrom" "[I") (by decide +kernel)
  have hiX4 : ∀ w ∈ wsX40, w ∈ wsX4_paceAt := by decide +kernel
  have zim1 : ((-1 : Int32)).toInt = -1 := by decide
  have zi1000 : ((1000 : Int32)).toInt = 1000 := by decide
  have zl0 : ((0 : Int64)).toInt = 0 := by decide
  have zl1 : ((1 : Int64)).toInt = 1 := by decide
  refine w_h (A := A) hP (fun H locs hP hS => ?_)
  have hn40 := hOM.1
  have hrg := hOM.2.1
  have hn20 := hOH.1
  have hrh := hOH.2.1
  have hn41 := hOT.1
  have hrt := hOT.2.1
  have zz0 : ((0 : Int32)).toInt = 0 := by decide
  refine lv_aload_n hx hb dX4_paceAt_0 rfl (lv_at hl 0 rfl) ?_
  refine lv_iload_n hx hb dX4_paceAt_1 rfl (lv_at hl 1 rfl) ?_
  have hPc := hP.sub (ws' := [(qy, .inr (4, [.ref qy1, .ref qy2, .ref qy3, .ref qy4, .int zM, .ref qy5, .ref qy6, .int zH, .ref qy7, .int zT, .long bg])), (qy1, .inl (cI, 40, .inl Mt)), (qy2, .inl (cI, 40, .inl Ms)), (qy3, .inl (cI, 40, .inl Mf)), (qy4, .inl (cI, 40, .inl Ml)), (qy5, .inl (cI, 20, .inl Ht)), (qy6, .inl (cI, 20, .inl Hu)), (qy7, .inl (cL, 40, .inr (.inl Tp)))]) [0, 1, 2, 3, 4, 5, 6, 7] rfl
  have hDc := hD.sub (ws' := [(qy, .inr (4, [.ref qy1, .ref qy2, .ref qy3, .ref qy4, .int zM, .ref qy5, .ref qy6, .int zH, .ref qy7, .int zT, .long bg])), (qy1, .inl (cI, 40, .inl Mt)), (qy2, .inl (cI, 40, .inl Ms)), (qy3, .inl (cI, 40, .inl Mf)), (qy4, .inl (cI, 40, .inl Ml)), (qy5, .inl (cI, 20, .inl Ht)), (qy6, .inl (cI, 20, .inl Hu)), (qy7, .inl (cL, 40, .inr (.inl Tp)))]) [0, 1, 2, 3, 4, 5, 6, 7] (by decide) rfl
  have hcc := (ct_X4_markOf l G cI cL H.size qy qy1 qy2 qy3 qy4 qy5 qy6 qy7 zM zH zT bg Mt Ms Mf Ml Ht Hu Tp p0 nm hnM hOM nh hnH hOH nt hnT hOT)
  refine ro_calli (va_runV (As := [.int p0]) (rest := []) ⟨hx, hb, hml, hown, hts⟩ hcc (cwV 1 hts gX4_paceAt_X4_markOf rfl rfl rfl (by decide +kernel) ⟨Nat.le_of_ble_eq_true rfl, Nat.le_of_ble_eq_true rfl⟩) ⟨pre_blind, va_recv hK hPc (ci := 4) (q0 := 0) rfl rfl, pre_pass hK hN hPc hDc⟩ rfl rfl hl.1 rfl (lv_room (Nat.le_of_ble_eq_true rfl)) dX4_paceAt_2 ⟨Nat.le_of_ble_eq_true rfl, Nat.le_of_ble_eq_true rfl⟩) hP hD hS hA [0, 1, 2, 3, 4, 5, 6, 7] rfl (fun r2 H locs hw2 hP hS => ?_)
  try dsimp only at hw2
  refine lv_istore_n (lv' := [(2, .int r2), (0, .ref qy), (1, .int p0)]) hx hb dX4_paceAt_5 rfl hl (by decide) rfl (fun ls hl => ?_)
  refine lv_iload_n hx hb dX4_paceAt_6 rfl (lv_at hl 0 rfl) ?_
  refine lv_iconst (v := (-1)) hx hb dX4_paceAt_7 (by decide) ?_
  refine lv_icmp_ne (tgt := 15) hx hb dX4_paceAt_8 (by decide) (fun c8 => ?_) (fun c8 => ?_)
  · have k8 : (r2.toInt : Int) ≠ (-1) := i_ne rfl (show ((-1 : Int32)).toInt = -1 by decide) c8
    have br9 := bi_rng (t := Mt) (x := p0.toInt) nm
    have r0 : 0 ≤ r2.toInt := by omega
    have bg9 := bi_get hw2 r0
    refine lv_iload_n hx hb dX4_paceAt_15 rfl (lv_at hl 2 rfl) ?_
    refine lv_aload_n hx hb dX4_paceAt_16 rfl (lv_at hl 1 rfl) ?_
    refine va_get (D := G) (ci := 4) (v := .ref qy1) (C := RX4) (T := TX4) (N := 11) hx hb hts hiX4 hown hK hP 0 rfl rfl 0 (by decide) hf7 (fun _ h9 => h9) rfl dX4_paceAt_17 ?_
    refine lv_iload_n hx hb dX4_paceAt_20 rfl (lv_at hl 0 rfl) ?_
    refine va_iald hx hb hK hP 1 0 rfl rfl (vi_in rfl (by omega) (by omega)) dX4_paceAt_21 ?_
    refine lv_topi (fun x21 ex21 => ?_)
    have ex21 : x21 = Mt r2.toInt.toNat := by rw [ex21]; exact congrArg _ (cl_nat rfl (by omega))
    have tx21 : x21.toInt = (Mt r2.toInt.toNat).toInt := by rw [ex21]
    have hrg_x21 := hrg r2.toInt.toNat (by omega)
    refine lv_isub hx hb dX4_paceAt_22 ?_
    refine lv_topi (fun x22 ex22 => ?_)
    have tx22 : x22.toInt = p0.toInt - x21.toInt := by rw [ex22]; exact ti_sub rfl rfl (by omega) (by omega)
    refine lv_istore_n (lv' := [(3, .int x22), (2, .int r2), (0, .ref qy), (1, .int p0)]) hx hb dX4_paceAt_23 rfl hl (by decide) rfl (fun ls hl => ?_)
    refine lv_iload_n hx hb dX4_paceAt_24 rfl (lv_at hl 0 rfl) ?_
    refine lv_aload_n hx hb dX4_paceAt_25 rfl (lv_at hl 2 rfl) ?_
    refine va_get (D := G) (ci := 4) (v := .ref qy2) (C := RX4) (T := TX4) (N := 11) hx hb hts hiX4 hown hK hP 0 rfl rfl 1 (by decide) hf13 (fun _ h9 => h9) rfl dX4_paceAt_26 ?_
    refine lv_iload_n hx hb dX4_paceAt_29 rfl (lv_at hl 1 rfl) ?_
    refine va_iald hx hb hK hP 2 0 rfl rfl (vi_in rfl (by omega) (by omega)) dX4_paceAt_30 ?_
    refine lv_topi (fun x30 ex30 => ?_)
    have ex30 : x30 = Ms r2.toInt.toNat := by rw [ex30]; exact congrArg _ (cl_nat rfl (by omega))
    have tx30 : x30.toInt = (Ms r2.toInt.toNat).toInt := by rw [ex30]
    have hrg_x30 := hrg r2.toInt.toNat (by omega)
    refine lv_icmp_lt (tgt := 41) hx hb dX4_paceAt_31 (by decide) (fun c31 => ?_) (fun c31 => ?_)
    · have k31 : (x22.toInt : Int) < x30.toInt := i_lt rfl rfl c31
      have e57 : ((Ml r2.toInt.toNat).toInt - (Mf r2.toInt.toNat).toInt) * (p0.toInt - (Mt r2.toInt.toNat).toInt) = ((Ml r2.toInt.toNat).toInt - (Mf r2.toInt.toNat).toInt) * (p0.toInt - (Mt r2.toInt.toNat).toInt) := rfl
      refine lv_aload_n hx hb dX4_paceAt_41 rfl (lv_at hl 2 rfl) ?_
      refine va_get (D := G) (ci := 4) (v := .ref qy4) (C := RX4) (T := TX4) (N := 11) hx hb hts hiX4 hown hK hP 0 rfl rfl 3 (by decide) hf19 (fun _ h9 => h9) rfl dX4_paceAt_42 ?_
      refine lv_iload_n hx hb dX4_paceAt_45 rfl (lv_at hl 1 rfl) ?_
      refine va_iald hx hb hK hP 4 0 rfl rfl (vi_in rfl (by omega) (by omega)) dX4_paceAt_46 ?_
      refine lv_topi (fun x46 ex46 => ?_)
      have ex46 : x46 = Ml r2.toInt.toNat := by rw [ex46]; exact congrArg _ (cl_nat rfl (by omega))
      have tx46 : x46.toInt = (Ml r2.toInt.toNat).toInt := by rw [ex46]
      have hrg_x46 := hrg r2.toInt.toNat (by omega)
      refine lv_aload_n hx hb dX4_paceAt_47 rfl (lv_at hl 2 rfl) ?_
      refine va_get (D := G) (ci := 4) (v := .ref qy3) (C := RX4) (T := TX4) (N := 11) hx hb hts hiX4 hown hK hP 0 rfl rfl 2 (by decide) hf16 (fun _ h9 => h9) rfl dX4_paceAt_48 ?_
      refine lv_iload_n hx hb dX4_paceAt_51 rfl (lv_at hl 1 rfl) ?_
      refine va_iald hx hb hK hP 3 0 rfl rfl (vi_in rfl (by omega) (by omega)) dX4_paceAt_52 ?_
      refine lv_topi (fun x52 ex52 => ?_)
      have ex52 : x52 = Mf r2.toInt.toNat := by rw [ex52]; exact congrArg _ (cl_nat rfl (by omega))
      have tx52 : x52.toInt = (Mf r2.toInt.toNat).toInt := by rw [ex52]
      have hrg_x52 := hrg r2.toInt.toNat (by omega)
      refine lv_isub hx hb dX4_paceAt_53 ?_
      refine lv_topi (fun x53 ex53 => ?_)
      have tx53 : x53.toInt = x46.toInt - x52.toInt := by rw [ex53]; exact ti_sub rfl rfl (by omega) (by omega)
      refine lv_i2l hx hb dX4_paceAt_54 rfl ?_
      refine lv_topl (fun x54 ex54 => ?_)
      have tx54 : x54.toInt = x53.toInt := by rw [ex54]; exact tc_i2l rfl
      refine lv_iload_n hx hb dX4_paceAt_55 rfl (lv_at hl 0 rfl) ?_
      refine lv_i2l hx hb dX4_paceAt_56 rfl ?_
      refine lv_topl (fun x56 ex56 => ?_)
      have tx56 : x56.toInt = x22.toInt := by rw [ex56]; exact tc_i2l rfl
      have b57 := mul_abs (show -1000000 ≤ x53.toInt ∧ x53.toInt ≤ 1000000 by omega) (show 0 ≤ x22.toInt ∧ x22.toInt ≤ 2000 by omega)
      refine lv_lmul hx hb dX4_paceAt_57 ?_
      refine lv_topl (fun x57 ex57 => ?_)
      have tx57 : x57.toInt = x53.toInt * x22.toInt := by rw [ex57]; exact tl_mul tx54 tx56 (by omega) (by omega)
      refine lv_lstore (lv' := [(4, .long x57), (3, .int x22), (2, .int r2), (0, .ref qy), (1, .int p0)]) hx hb dX4_paceAt_58  hl (by decide) rfl (fun ls hl => ?_)
      refine lv_aload_n hx hb dX4_paceAt_60 rfl (lv_at hl 3 rfl) ?_
      refine va_get (D := G) (ci := 4) (v := .ref qy2) (C := RX4) (T := TX4) (N := 11) hx hb hts hiX4 hown hK hP 0 rfl rfl 1 (by decide) hf13 (fun _ h9 => h9) rfl dX4_paceAt_61 ?_
      refine lv_iload_n hx hb dX4_paceAt_64 rfl (lv_at hl 2 rfl) ?_
      refine va_iald hx hb hK hP 2 0 rfl rfl (vi_in rfl (by omega) (by omega)) dX4_paceAt_65 ?_
      refine lv_topi (fun x65 ex65 => ?_)
      have ex65 : x65 = Ms r2.toInt.toNat := by rw [ex65]; exact congrArg _ (cl_nat rfl (by omega))
      have tx65 : x65.toInt = (Ms r2.toInt.toNat).toInt := by rw [ex65]
      have hrg_x65 := hrg r2.toInt.toNat (by omega)
      refine lv_i2l hx hb dX4_paceAt_66 rfl ?_
      refine lv_topl (fun x66 ex66 => ?_)
      have tx66 : x66.toInt = x65.toInt := by rw [ex66]; exact tc_i2l rfl
      refine lv_lstore (lv' := [(6, .long x66), (4, .long x57), (3, .int x22), (2, .int r2), (0, .ref qy), (1, .int p0)]) hx hb dX4_paceAt_67  hl (by decide) rfl (fun ls hl => ?_)
      refine lv_lload hx hb dX4_paceAt_69 (lv_at hl 1 rfl) ?_
      refine lv_lconst (v := 0) hx hb dX4_paceAt_71 (by decide) ?_
      refine W.lcmp hx hb dX4_paceAt_72 ?_
      refine lv_if_lt (tgt := 84) hx hb dX4_paceAt_73 (by decide) (fun c73 => ?_) (fun c73 => ?_)
      · have k73 : (x57.toInt : Int) < 0 := l_lt rfl (show ((0 : Int64)).toInt = 0 by decide) ((lg_cmp_lt _ _).mp c73)
        have pq := neg_ceil (a := x57.toInt) (b := x65.toInt) (by omega)
        have pb := div_abs (a := x57.toInt) (b := x65.toInt) (A := 2000000000) (by omega) (by omega)
        have pn : 0 ≤ (-x57.toInt + x65.toInt - 1) / x65.toInt := Int.ediv_nonneg (by omega) (by omega)
        refine lv_lload hx hb dX4_paceAt_84 (lv_at hl 1 rfl) ?_
        refine lv_lneg hx hb dX4_paceAt_86 ?_
        refine lv_topl (fun x86 ex86 => ?_)
        have tx86 : x86.toInt = -x57.toInt := by rw [ex86]; exact tl_neg rfl (by omega)
        refine lv_lload hx hb dX4_paceAt_87 (lv_at hl 0 rfl) ?_
        refine lv_ladd hx hb dX4_paceAt_89 ?_
        refine lv_topl (fun x89 ex89 => ?_)
        have tx89 : x89.toInt = x86.toInt + x65.toInt := by rw [ex89]; exact tl_add rfl tx66 (by omega) (by omega)
        refine lv_lconst (v := 1) hx hb dX4_paceAt_90 (by decide) ?_
        refine lv_lsub hx hb dX4_paceAt_91 ?_
        refine lv_topl (fun x91 ex91 => ?_)
        have tx91 : x91.toInt = x89.toInt - 1 := by rw [ex91]; exact tl_sub rfl (show ((1 : Int64)).toInt = 1 by decide) (by omega) (by omega)
        refine lv_lload hx hb dX4_paceAt_92 (lv_at hl 0 rfl) ?_
        refine lv_ldiv hx hb dX4_paceAt_94 (l_ne0 tx66 (by omega)) ?_
        refine lv_topl (fun x94 ex94 => ?_)
        have tx94 : x94.toInt = x91.toInt / x65.toInt := by rw [ex94]; exact tl_div rfl tx66 (by omega) (by omega)
        have e94 : x94.toInt = (-x57.toInt + x65.toInt - 1) / x65.toInt := by rw [tx94, show x91.toInt = -x57.toInt + x65.toInt - 1 by omega]
        refine lv_lneg hx hb dX4_paceAt_95 ?_
        refine lv_topl (fun x95 ex95 => ?_)
        have tx95 : x95.toInt = -x94.toInt := by rw [ex95]; exact tl_neg rfl (by omega)
        have fq : x95.toInt = x57.toInt / x65.toInt := by first | exact tx80 | (rw [tx95, e94]; exact pq)
        refine lv_lstore (lv' := [(8, .long x95), (6, .long x66), (4, .long x57), (3, .int x22), (2, .int r2), (0, .ref qy), (1, .int p0)]) hx hb dX4_paceAt_96  hl (by decide) rfl (fun ls hl => ?_)
        refine lv_aload_n hx hb dX4_paceAt_98 rfl (lv_at hl 5 rfl) ?_
        refine va_get (D := G) (ci := 4) (v := .ref qy3) (C := RX4) (T := TX4) (N := 11) hx hb hts hiX4 hown hK hP 0 rfl rfl 2 (by decide) hf16 (fun _ h9 => h9) rfl dX4_paceAt_99 ?_
        refine lv_iload_n hx hb dX4_paceAt_102 rfl (lv_at hl 4 rfl) ?_
        refine va_iald hx hb hK hP 3 0 rfl rfl (vi_in rfl (by omega) (by omega)) dX4_paceAt_103 ?_
        refine lv_topi (fun x103 ex103 => ?_)
        have ex103 : x103 = Mf r2.toInt.toNat := by rw [ex103]; exact congrArg _ (cl_nat rfl (by omega))
        have tx103 : x103.toInt = (Mf r2.toInt.toNat).toInt := by rw [ex103]
        have hrg_x103 := hrg r2.toInt.toNat (by omega)
        refine lv_lload hx hb dX4_paceAt_104 (lv_at hl 0 rfl) ?_
        refine lv_l2i hx hb dX4_paceAt_106 rfl ?_
        refine lv_topi (fun x106 ex106 => ?_)
        have tx106 : x106.toInt = x95.toInt := by rw [ex106]; exact tc_l2i rfl (by omega) (by omega)
        refine lv_iadd hx hb dX4_paceAt_107 ?_
        refine lv_topi (fun x107 ex107 => ?_)
        have tx107 : x107.toInt = x103.toInt + x106.toInt := by rw [ex107]; exact ti_add rfl rfl (by omega) (by omega)
        have e57 : x57.toInt = ((Ml r2.toInt.toNat).toInt - (Mf r2.toInt.toNat).toInt) * (p0.toInt - (Mt r2.toInt.toNat).toInt) := by rw [tx57, show x53.toInt = (Ml r2.toInt.toNat).toInt - (Mf r2.toInt.toNat).toInt by omega, show x22.toInt = p0.toInt - (Mt r2.toInt.toNat).toInt by omega]
        exact W.iret (v := x107) hx hb hr (fun t ht hW => ⟨⟨x107, (), rfl, (by (try dsimp only); exact (by rw [pace_at hOM.2.2.1 bg9.1 bg9.2.2.1 bg9.2.2.2]; unfold seg; rw [if_neg (by omega), ← e57, ← tx65, ← fq]; omega)), by rw [ht]; exact hP, hD⟩, hS.F ht⟩) hS.2.2 dX4_paceAt_108
      · have k73 : (0 : Int) ≤ x57.toInt := l_nlt rfl (show ((0 : Int64)).toInt = 0 by decide) (fun h9 => c73 ((lg_cmp_lt _ _).mpr h9))
        have pb := div_abs (a := x57.toInt) (b := x65.toInt) (A := 2000000000) (by omega) (by omega)
        refine lv_lload hx hb dX4_paceAt_76 (lv_at hl 1 rfl) ?_
        refine lv_lload hx hb dX4_paceAt_78 (lv_at hl 0 rfl) ?_
        refine lv_ldiv hx hb dX4_paceAt_80 (l_ne0 tx66 (by omega)) ?_
        refine lv_topl (fun x80 ex80 => ?_)
        have tx80 : x80.toInt = x57.toInt / x65.toInt := by rw [ex80]; exact tl_div rfl tx66 (by omega) (by omega)
        refine lv_goto (tgt := 96) hx hb dX4_paceAt_81 (by decide) ?_
        have fq : x80.toInt = x57.toInt / x65.toInt := by first | exact tx80 | (rw [tx95, e94]; exact pq)
        refine lv_lstore (lv' := [(8, .long x80), (6, .long x66), (4, .long x57), (3, .int x22), (2, .int r2), (0, .ref qy), (1, .int p0)]) hx hb dX4_paceAt_96  hl (by decide) rfl (fun ls hl => ?_)
        refine lv_aload_n hx hb dX4_paceAt_98 rfl (lv_at hl 5 rfl) ?_
        refine va_get (D := G) (ci := 4) (v := .ref qy3) (C := RX4) (T := TX4) (N := 11) hx hb hts hiX4 hown hK hP 0 rfl rfl 2 (by decide) hf16 (fun _ h9 => h9) rfl dX4_paceAt_99 ?_
        refine lv_iload_n hx hb dX4_paceAt_102 rfl (lv_at hl 4 rfl) ?_
        refine va_iald hx hb hK hP 3 0 rfl rfl (vi_in rfl (by omega) (by omega)) dX4_paceAt_103 ?_
        refine lv_topi (fun x103_2 ex103_2 => ?_)
        have ex103_2 : x103_2 = Mf r2.toInt.toNat := by rw [ex103_2]; exact congrArg _ (cl_nat rfl (by omega))
        have tx103_2 : x103_2.toInt = (Mf r2.toInt.toNat).toInt := by rw [ex103_2]
        have hrg_x103_2 := hrg r2.toInt.toNat (by omega)
        refine lv_lload hx hb dX4_paceAt_104 (lv_at hl 0 rfl) ?_
        refine lv_l2i hx hb dX4_paceAt_106 rfl ?_
        refine lv_topi (fun x106_2 ex106_2 => ?_)
        have tx106_2 : x106_2.toInt = x80.toInt := by rw [ex106_2]; exact tc_l2i rfl (by omega) (by omega)
        refine lv_iadd hx hb dX4_paceAt_107 ?_
        refine lv_topi (fun x107_2 ex107_2 => ?_)
        have tx107_2 : x107_2.toInt = x103_2.toInt + x106_2.toInt := by rw [ex107_2]; exact ti_add rfl rfl (by omega) (by omega)
        have e57 : x57.toInt = ((Ml r2.toInt.toNat).toInt - (Mf r2.toInt.toNat).toInt) * (p0.toInt - (Mt r2.toInt.toNat).toInt) := by rw [tx57, show x53.toInt = (Ml r2.toInt.toNat).toInt - (Mf r2.toInt.toNat).toInt by omega, show x22.toInt = p0.toInt - (Mt r2.toInt.toNat).toInt by omega]
        exact W.iret (v := x107_2) hx hb hr (fun t ht hW => ⟨⟨x107_2, (), rfl, (by (try dsimp only); exact (by rw [pace_at hOM.2.2.1 bg9.1 bg9.2.2.1 bg9.2.2.2]; unfold seg; rw [if_neg (by omega), ← e57, ← tx65, ← fq]; omega)), by rw [ht]; exact hP, hD⟩, hS.F ht⟩) hS.2.2 dX4_paceAt_108
    · have k31 : (x30.toInt : Int) ≤ x22.toInt := i_nlt rfl rfl c31
      refine lv_aload_n hx hb dX4_paceAt_34 rfl (lv_at hl 2 rfl) ?_
      refine va_get (D := G) (ci := 4) (v := .ref qy4) (C := RX4) (T := TX4) (N := 11) hx hb hts hiX4 hown hK hP 0 rfl rfl 3 (by decide) hf19 (fun _ h9 => h9) rfl dX4_paceAt_35 ?_
      refine lv_iload_n hx hb dX4_paceAt_38 rfl (lv_at hl 1 rfl) ?_
      refine va_iald hx hb hK hP 4 0 rfl rfl (vi_in rfl (by omega) (by omega)) dX4_paceAt_39 ?_
      refine lv_topi (fun x39 ex39 => ?_)
      have ex39 : x39 = Ml r2.toInt.toNat := by rw [ex39]; exact congrArg _ (cl_nat rfl (by omega))
      have tx39 : x39.toInt = (Ml r2.toInt.toNat).toInt := by rw [ex39]
      have hrg_x39 := hrg r2.toInt.toNat (by omega)
      exact W.iret (v := x39) hx hb hr (fun t ht hW => ⟨⟨x39, (), rfl, (by (try dsimp only); exact (by rw [pace_at hOM.2.2.1 bg9.1 bg9.2.2.1 bg9.2.2.2]; unfold seg; rw [if_pos (by omega)]; omega)), by rw [ht]; exact hP, hD⟩, hS.F ht⟩) hS.2.2 dX4_paceAt_40
  · have k8 : (r2.toInt : Int) = (-1) := i_eq rfl (show ((-1 : Int32)).toInt = -1 by decide) c8
    have bn := bi_neg hw2 (by omega)
    refine lv_sipush (v := 1000) hx hb dX4_paceAt_11 (by decide) ?_
    exact W.iret (v := 1000) hx hb hr (fun t ht hW => ⟨⟨1000, (), rfl, (by (try dsimp only); exact (by rw [pace_none bn.2]; omega)), by rw [ht]; exact hP, hD⟩, hS.F ht⟩) hS.2.2 dX4_paceAt_14

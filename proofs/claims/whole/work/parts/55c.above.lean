set_option maxHeartbeats 1000000 in
set_option maxRecDepth 100000 in
theorem ct_X4_above (l : Launch) (G : va_G) (cI cL : ClassId) (sz : Nat) (qy : Nat) (qy1 : Nat) (qy2 : Nat) (qy3 : Nat) (qy4 : Nat) (qy5 : Nat) (qy6 : Nat) (qy7 : Nat) (zM : Int32) (zH : Int32) (zT : Int32) (bg : Int64) (Mt : Nat → Int32) (Ms : Nat → Int32) (Mf : Nat → Int32) (Ml : Nat → Int32) (Ht : Nat → Int32) (Hu : Nat → Int32) (Tp : Nat → Int64) (nm : Nat) (hnM : zM.toInt = nm) (hOM : okM nm Mt Ms Mf Ml) (nh : Nat) (hnH : zH.toInt = nh) (hOH : okH nh Ht Hu) (nt : Nat) (hnT : zT.toInt = nt) (hOT : okT nt Tp) : Met l yX4_above wsX4_above ({ frames := 0, cells := 0, slots := 0, locals := 0 }) (va_Pc [.ref qy] (pre0 G cI cL [(qy, .inr (4, [.ref qy1, .ref qy2, .ref qy3, .ref qy4, .int zM, .ref qy5, .ref qy6, .int zH, .ref qy7, .int zT, .long bg])), (qy1, .inl (cI, 40, .inl Mt)), (qy2, .inl (cI, 40, .inl Ms)), (qy3, .inl (cI, 40, .inl Mf)), (qy4, .inl (cI, 40, .inl Ml)), (qy5, .inl (cI, 20, .inl Ht)), (qy6, .inl (cI, 20, .inl Hu)), (qy7, .inl (cL, 40, .inr (.inl Tp)))] sz)) (va_Ql (fun (r : Int64) (u : Unit) => r.toInt = 6 * sD Tp nt nt) (fun (u : Unit) t => va_P G vwCl [(qy, .inr (4, [.ref qy1, .ref qy2, .ref qy3, .ref qy4, .int zM, .ref qy5, .ref qy6, .int zH, .ref qy7, .int zT, .long bg])), (qy1, .inl (cI, 40, .inl Mt)), (qy2, .inl (cI, 40, .inl Ms)), (qy3, .inl (cI, 40, .inl Mf)), (qy4, .inl (cI, 40, .inl Ml)), (qy5, .inl (cI, 20, .inl Ht)), (qy6, .inl (cI, 20, .inl Hu)), (qy7, .inl (cL, 40, .inr (.inl Tp)))] t.heap ∧ va_D (va_A [(qy, .inr (4, [.ref qy1, .ref qy2, .ref qy3, .ref qy4, .int zM, .ref qy5, .ref qy6, .int zH, .ref qy7, .int zT, .long bg])), (qy1, .inl (cI, 40, .inl Mt)), (qy2, .inl (cI, 40, .inl Ms)), (qy3, .inl (cI, 40, .inl Mf)), (qy4, .inl (cI, 40, .inl Ml)), (qy5, .inl (cI, 20, .inl Ht)), (qy6, .inl (cI, 20, .inl Hu)), (qy7, .inl (cL, 40, .inr (.inl Tp)))] sz) [(qy, .inr (4, [.ref qy1, .ref qy2, .ref qy3, .ref qy4, .int zM, .ref qy5, .ref qy6, .int zH, .ref qy7, .int zT, .long bg])), (qy1, .inl (cI, 40, .inl Mt)), (qy2, .inl (cI, 40, .inl Ms)), (qy3, .inl (cI, 40, .inl Mf)), (qy4, .inl (cI, 40, .inl Ml)), (qy5, .inl (cI, 20, .inl Ht)), (qy6, .inl (cI, 20, .inl Hu)), (qy7, .inl (cL, 40, .inr (.inl Tp)))]) (va_A [(qy, .inr (4, [.ref qy1, .ref qy2, .ref qy3, .ref qy4, .int zM, .ref qy5, .ref qy6, .int zH, .ref qy7, .int zT, .long bg])), (qy1, .inl (cI, 40, .inl Mt)), (qy2, .inl (cI, 40, .inl Ms)), (qy3, .inl (cI, 40, .inl Mf)), (qy4, .inl (cI, 40, .inl Ml)), (qy5, .inl (cI, 20, .inl Ht)), (qy6, .inl (cI, 20, .inl Hu)), (qy7, .inl (cL, 40, .inr (.inl Tp)))] sz)) 0 0 (va_A [(qy, .inr (4, [.ref qy1, .ref qy2, .ref qy3, .ref qy4, .int zM, .ref qy5, .ref qy6, .int zH, .ref qy7, .int zT, .long bg])), (qy1, .inl (cI, 40, .inl Mt)), (qy2, .inl (cI, 40, .inl Ms)), (qy3, .inl (cI, 40, .inl Mf)), (qy4, .inl (cI, 40, .inl Ml)), (qy5, .inl (cI, 20, .inl Ht)), (qy6, .inl (cI, 20, .inl Hu)), (qy7, .inl (cL, 40, .inr (.inl Tp)))] sz) := by
  refine Met.ofW (cc := cX4_above) (maxL := 4) (ret := (some .long)) (by decide) rfl ?_
  intro p e s m args below meth c s₁ B hml hv
  obtain ⟨rfl, hsz, hP, hK, hD0, hN⟩ := hv
  have hx := B.exec
  have hb := B.bytes
  have hr := B.returns
  have hts := atoms_spec (ws := wsX4_above) B.pre
  have hown : s.vm.findClass RX4 = some m.cls := findClass_of_methodNamed B.named
  have hlocks := B.notSynchronized
  subst hsz
  have hD := hD0.self (sz := s.heap.size)
  generalize hAe : va_A [(qy, .inr (4, [.ref qy1, .ref qy2, .ref qy3, .ref qy4, .int zM, .ref qy5, .ref qy6, .int zH, .ref qy7, .int zT, .long bg])), (qy1, .inl (cI, 40, .inl Mt)), (qy2, .inl (cI, 40, .inl Ms)), (qy3, .inl (cI, 40, .inl Mf)), (qy4, .inl (cI, 40, .inl Ml)), (qy5, .inl (cI, 20, .inl Ht)), (qy6, .inl (cI, 20, .inl Hu)), (qy7, .inl (cL, 40, .inr (.inl Tp)))] s.heap.size = A at hD ⊢
  have hA : ∀ q : Nat, s.heap.size ≤ q → A q := fun q h => by rw [← hAe]; exact Or.inr h
  have hP : va_P G vwCl [(qy, .inr (4, [.ref qy1, .ref qy2, .ref qy3, .ref qy4, .int zM, .ref qy5, .ref qy6, .int zH, .ref qy7, .int zT, .long bg])), (qy1, .inl (cI, 40, .inl Mt)), (qy2, .inl (cI, 40, .inl Ms)), (qy3, .inl (cI, 40, .inl Mf)), (qy4, .inl (cI, 40, .inl Ml)), (qy5, .inl (cI, 20, .inl Ht)), (qy6, .inl (cI, 20, .inl Hu)), (qy7, .inl (cL, 40, .inr (.inl Tp)))] s.heap := hP
  have hl := lv_entry ([.ref qy]) (n := 4) (Nat.le_of_ble_eq_true rfl)
  rw [lg_entry_eq]
  generalize (lg_sl ([.ref qy]) ++ List.replicate (4 - (lg_sl ([.ref qy])).length) Slot.unset).toArray = ls at hl ⊢
  have hl : lv_has ls 4 [(0, .ref qy)] := hl
  have hf77 := hts (.fieldLink RX4 77 "TempoMapsModel" "tapMany" "I") (by decide +kernel)
  have hf28 := hts (.fieldLink RX4 28 "TempoMapsModel" "taps" "[J") (by decide +kernel)
  have hiX4 : ∀ w ∈ wsX40, w ∈ wsX4_above := by decide +kernel
  have zi0 : ((0 : Int32)).toInt = 0 := by decide
  have zi1 : ((1 : Int32)).toInt = 1 := by decide
  have zl0 : ((0 : Int64)).toInt = 0 := by decide
  have zl1 : ((1 : Int64)).toInt = 1 := by decide
  have zl2 : ((2 : Int64)).toInt = 2 := by decide
  have zl6 : ((6 : Int64)).toInt = 6 := by decide
  refine w_h (A := A) hP (fun H locs hP hS => ?_)
  have hn40 := hOM.1
  have hrg := hOM.2.1
  have hn20 := hOH.1
  have hrh := hOH.2.1
  have hn41 := hOT.1
  have hrt := hOT.2.1
  have zz0 : ((0 : Int32)).toInt = 0 := by decide
  refine lv_lconst (v := 0) hx hb dX4_above_0 (by decide) ?_
  refine lv_lstore_n (lv' := [(1, .long 0), (0, .ref qy)]) hx hb dX4_above_1 rfl hl (by decide) rfl (fun ls hl => ?_)
  refine lv_iconst (v := 0) hx hb dX4_above_2 (by decide) ?_
  refine lv_istore_n (lv' := [(3, .int 0), (1, .long 0), (0, .ref qy)]) hx hb dX4_above_3 rfl hl (by decide) rfl (fun ls hl => ?_)
  refine W_loop2 (fun (v1 : Int64) (v3 : Int32) ls H locs => va_P G vwCl [(qy, .inr (4, [.ref qy1, .ref qy2, .ref qy3, .ref qy4, .int zM, .ref qy5, .ref qy6, .int zH, .ref qy7, .int zT, .long bg])), (qy1, .inl (cI, 40, .inl Mt)), (qy2, .inl (cI, 40, .inl Ms)), (qy3, .inl (cI, 40, .inl Mf)), (qy4, .inl (cI, 40, .inl Ml)), (qy5, .inl (cI, 20, .inl Ht)), (qy6, .inl (cI, 20, .inl Hu)), (qy7, .inl (cL, 40, .inr (.inl Tp)))] H ∧ va_D A [(qy, .inr (4, [.ref qy1, .ref qy2, .ref qy3, .ref qy4, .int zM, .ref qy5, .ref qy6, .int zH, .ref qy7, .int zT, .long bg])), (qy1, .inl (cI, 40, .inl Mt)), (qy2, .inl (cI, 40, .inl Ms)), (qy3, .inl (cI, 40, .inl Mf)), (qy4, .inl (cI, 40, .inl Ml)), (qy5, .inl (cI, 20, .inl Ht)), (qy6, .inl (cI, 20, .inl Hu)), (qy7, .inl (cL, 40, .inr (.inl Tp)))] ∧ va_S A s.heap H locs ∧ lv_has ls 4 [(0, .ref qy), (1, .long v1), (3, .int v3)] ∧ (0 ≤ v3.toInt ∧ v3.toInt ≤ nt) ∧ (v1.toInt = sD Tp nt v3.toInt.toNat) ∧ (-(100000000000000 * v3.toInt) ≤ v1.toInt ∧ v1.toInt ≤ 100000000000000 * v3.toInt)) (fun (v1 : Int64) (v3 : Int32) => (nt - v3.toInt).toNat) (fun v1 v3 ls H locs hI ih4 => ?_) (0 : Int64) (0 : Int32) ls _ _ ⟨hP, hD, hS, lv_sub hl [2, 1, 0] rfl, (show 0 ≤ (0 : Int32).toInt ∧ (0 : Int32).toInt ≤ nt from by omega), (show (0 : Int64).toInt = sD Tp nt (0 : Int32).toInt.toNat from by rw [zi0]; exact zl0), (show -(100000000000000 * (0 : Int32).toInt) ≤ (0 : Int64).toInt ∧ (0 : Int64).toInt ≤ 100000000000000 * (0 : Int32).toInt from by omega)⟩
  obtain ⟨hP, hD, hS, hl, i1, i2, i3⟩ := hI
  refine lv_iload_n hx hb dX4_above_4 rfl (lv_at hl 2 rfl) ?_
  refine lv_aload_n hx hb dX4_above_5 rfl (lv_at hl 0 rfl) ?_
  refine va_get (D := G) (ci := 4) (v := .int zT) (C := RX4) (T := TX4) (N := 11) hx hb hts hiX4 hown hK hP 0 rfl rfl 9 (by decide) hf77 (fun _ h9 => h9) rfl dX4_above_6 ?_
  refine lv_icmp_ge (tgt := 42) hx hb dX4_above_9 (by decide) (fun c9 => ?_) (fun c9 => ?_)
  · have k9 : (zT.toInt : Int) ≤ v3.toInt := i_le rfl rfl c9
    refine lv_ldc2 (v := 6) hx hb hown (hts (.constantLong RX4 115 6) (by decide +kernel)) dX4_above_42 ?_
    refine lv_lload_n hx hb dX4_above_45 rfl (lv_at hl 1 rfl) ?_
    refine lv_lmul hx hb dX4_above_46 ?_
    refine lv_topl (fun x46 ex46 => ?_)
    have tx46 : x46.toInt = 6 * v1.toInt := by rw [ex46]; exact tl_mul (show ((6 : Int64)).toInt = 6 by decide) rfl (by omega) (by omega)
    exact W.lret (v := x46) hx hb hr (fun t ht hW => ⟨⟨x46, (), rfl, (by (try dsimp only); exact (by rw [show v3.toInt.toNat = nt by omega] at i2; omega)), by rw [ht]; exact hP, hD⟩, hS.F ht⟩) hS.2.2 dX4_above_47
  · have k9 : (v3.toInt : Int) < zT.toInt := i_nle rfl rfl c9
    refine lv_lload_n hx hb dX4_above_12 rfl (lv_at hl 1 rfl) ?_
    refine lv_ldc2 (v := 2) hx hb hown (hts (.constantLong RX4 113 2) (by decide +kernel)) dX4_above_13 ?_
    refine lv_iload_n hx hb dX4_above_16 rfl (lv_at hl 2 rfl) ?_
    refine lv_i2l hx hb dX4_above_17 rfl ?_
    refine lv_topl (fun x17 ex17 => ?_)
    have tx17 : x17.toInt = v3.toInt := by rw [ex17]; exact tc_i2l rfl
    refine lv_lmul hx hb dX4_above_18 ?_
    refine lv_topl (fun x18 ex18 => ?_)
    have tx18 : x18.toInt = 2 * v3.toInt := by rw [ex18]; exact tl_mul (show ((2 : Int64)).toInt = 2 by decide) tx17 (by omega) (by omega)
    refine lv_aload_n hx hb dX4_above_19 rfl (lv_at hl 0 rfl) ?_
    refine va_get (D := G) (ci := 4) (v := .int zT) (C := RX4) (T := TX4) (N := 11) hx hb hts hiX4 hown hK hP 0 rfl rfl 9 (by decide) hf77 (fun _ h9 => h9) rfl dX4_above_20 ?_
    refine lv_i2l hx hb dX4_above_23 rfl ?_
    refine lv_topl (fun x23 ex23 => ?_)
    have tx23 : x23.toInt = zT.toInt := by rw [ex23]; exact tc_i2l rfl
    refine lv_lsub hx hb dX4_above_24 ?_
    refine lv_topl (fun x24 ex24 => ?_)
    have tx24 : x24.toInt = x18.toInt - zT.toInt := by rw [ex24]; exact tl_sub rfl tx23 (by omega) (by omega)
    refine lv_lconst (v := 1) hx hb dX4_above_25 (by decide) ?_
    refine lv_ladd hx hb dX4_above_26 ?_
    refine lv_topl (fun x26 ex26 => ?_)
    have tx26 : x26.toInt = x24.toInt + 1 := by rw [ex26]; exact tl_add rfl (show ((1 : Int64)).toInt = 1 by decide) (by omega) (by omega)
    refine lv_aload_n hx hb dX4_above_27 rfl (lv_at hl 0 rfl) ?_
    refine va_get (D := G) (ci := 4) (v := .ref qy7) (C := RX4) (T := TX4) (N := 11) hx hb hts hiX4 hown hK hP 0 rfl rfl 8 (by decide) hf28 (fun _ h9 => h9) rfl dX4_above_28 ?_
    refine lv_iload_n hx hb dX4_above_31 rfl (lv_at hl 2 rfl) ?_
    refine va_lald hx hb hK hP 7 1 rfl rfl (vi_in rfl (by omega) (by omega)) dX4_above_32 ?_
    refine lv_topl (fun x32 ex32 => ?_)
    have ex32 : x32 = Tp v3.toInt.toNat := by rw [ex32]; exact congrArg _ (cl_nat rfl (by omega))
    have tx32 : x32.toInt = (Tp v3.toInt.toNat).toInt := by rw [ex32]
    have hrt_x32 := hrt v3.toInt.toNat (by omega)
    have b33 := mul_abs (show -100 ≤ x26.toInt ∧ x26.toInt ≤ 100 by omega) (show 0 ≤ x32.toInt ∧ x32.toInt ≤ 1000000000000 by omega)
    refine lv_lmul hx hb dX4_above_33 ?_
    refine lv_topl (fun x33 ex33 => ?_)
    have tx33 : x33.toInt = x26.toInt * x32.toInt := by rw [ex33]; exact tl_mul rfl rfl (by omega) (by omega)
    refine lv_ladd hx hb dX4_above_34 ?_
    refine lv_topl (fun x34 ex34 => ?_)
    have tx34 : x34.toInt = v1.toInt + x33.toInt := by rw [ex34]; exact tl_add rfl rfl (by omega) (by omega)
    refine lv_lstore_n (lv' := [(1, .long x34), (0, .ref qy), (3, .int v3)]) hx hb dX4_above_35 rfl hl (by decide) rfl (fun ls hl => ?_)
    obtain ⟨x36, ex36⟩ : ∃ y : Int32, y = v3 + 1 := ⟨_, rfl⟩
    have tx36 : x36.toInt = v3.toInt + 1 := by rw [ex36]; exact ti_add rfl (by decide) (by omega) (by omega)
    refine lv_iinc (v := x36) (lv' := [(3, .int x36), (1, .long x34), (0, .ref qy)]) hx hb dX4_above_36 hl (k := 2) rfl (by rw [ex36]; rfl) (by decide) rfl (fun ls hl => ?_)
    refine lv_goto (tgt := 4) hx hb dX4_above_39 (by decide) ?_
    exact ih4 x34 x36 ls _ _ ⟨hP, hD, hS, lv_sub hl [2, 1, 0] rfl, (show 0 ≤ x36.toInt ∧ x36.toInt ≤ nt from by omega), (show x34.toInt = sD Tp nt x36.toInt.toNat from by rw [show x36.toInt.toNat = v3.toInt.toNat + 1 by omega]; simp only [sD]; rw [show ((v3.toInt.toNat : Nat) : Int) = v3.toInt by omega, show 2 * v3.toInt - (nt : Int) + 1 = x26.toInt by omega, ← tx32]; omega), (show -(100000000000000 * x36.toInt) ≤ x34.toInt ∧ x34.toInt ≤ 100000000000000 * x36.toInt from by omega)⟩ (show (nt - x36.toInt).toNat < (nt - v3.toInt).toNat from by omega)

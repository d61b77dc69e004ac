set_option maxHeartbeats 1000000 in
set_option maxRecDepth 100000 in
theorem ct_X4_below (l : Launch) (G : va_G) (cI cL : ClassId) (sz : Nat) (qy : Nat) (qy1 : Nat) (qy2 : Nat) (qy3 : Nat) (qy4 : Nat) (qy5 : Nat) (qy6 : Nat) (qy7 : Nat) (zM : Int32) (zH : Int32) (zT : Int32) (bg : Int64) (Mt : Nat → Int32) (Ms : Nat → Int32) (Mf : Nat → Int32) (Ml : Nat → Int32) (Ht : Nat → Int32) (Hu : Nat → Int32) (Tp : Nat → Int64) (nm : Nat) (hnM : zM.toInt = nm) (hOM : okM nm Mt Ms Mf Ml) (nh : Nat) (hnH : zH.toInt = nh) (hOH : okH nh Ht Hu) (nt : Nat) (hnT : zT.toInt = nt) (hOT : okT nt Tp) : Met l yX4_below wsX4_below ({ frames := 0, cells := 0, slots := 0, locals := 0 }) (va_Pc [.ref qy] (pre0 G cI cL [(qy, .inr (4, [.ref qy1, .ref qy2, .ref qy3, .ref qy4, .int zM, .ref qy5, .ref qy6, .int zH, .ref qy7, .int zT, .long bg])), (qy1, .inl (cI, 40, .inl Mt)), (qy2, .inl (cI, 40, .inl Ms)), (qy3, .inl (cI, 40, .inl Mf)), (qy4, .inl (cI, 40, .inl Ml)), (qy5, .inl (cI, 20, .inl Ht)), (qy6, .inl (cI, 20, .inl Hu)), (qy7, .inl (cL, 40, .inr (.inl Tp)))] sz)) (va_Ql (fun (r : Int64) (u : Unit) => r.toInt = (nt : Int) * ((nt : Int) * nt - 1)) (fun (u : Unit) t => va_P G vwCl [(qy, .inr (4, [.ref qy1, .ref qy2, .ref qy3, .ref qy4, .int zM, .ref qy5, .ref qy6, .int zH, .ref qy7, .int zT, .long bg])), (qy1, .inl (cI, 40, .inl Mt)), (qy2, .inl (cI, 40, .inl Ms)), (qy3, .inl (cI, 40, .inl Mf)), (qy4, .inl (cI, 40, .inl Ml)), (qy5, .inl (cI, 20, .inl Ht)), (qy6, .inl (cI, 20, .inl Hu)), (qy7, .inl (cL, 40, .inr (.inl Tp)))] t.heap ∧ va_D (va_A [(qy, .inr (4, [.ref qy1, .ref qy2, .ref qy3, .ref qy4, .int zM, .ref qy5, .ref qy6, .int zH, .ref qy7, .int zT, .long bg])), (qy1, .inl (cI, 40, .inl Mt)), (qy2, .inl (cI, 40, .inl Ms)), (qy3, .inl (cI, 40, .inl Mf)), (qy4, .inl (cI, 40, .inl Ml)), (qy5, .inl (cI, 20, .inl Ht)), (qy6, .inl (cI, 20, .inl Hu)), (qy7, .inl (cL, 40, .inr (.inl Tp)))] sz) [(qy, .inr (4, [.ref qy1, .ref qy2, .ref qy3, .ref qy4, .int zM, .ref qy5, .ref qy6, .int zH, .ref qy7, .int zT, .long bg])), (qy1, .inl (cI, 40, .inl Mt)), (qy2, .inl (cI, 40, .inl Ms)), (qy3, .inl (cI, 40, .inl Mf)), (qy4, .inl (cI, 40, .inl Ml)), (qy5, .inl (cI, 20, .inl Ht)), (qy6, .inl (cI, 20, .inl Hu)), (qy7, .inl (cL, 40, .inr (.inl Tp)))]) (va_A [(qy, .inr (4, [.ref qy1, .ref qy2, .ref qy3, .ref qy4, .int zM, .ref qy5, .ref qy6, .int zH, .ref qy7, .int zT, .long bg])), (qy1, .inl (cI, 40, .inl Mt)), (qy2, .inl (cI, 40, .inl Ms)), (qy3, .inl (cI, 40, .inl Mf)), (qy4, .inl (cI, 40, .inl Ml)), (qy5, .inl (cI, 20, .inl Ht)), (qy6, .inl (cI, 20, .inl Hu)), (qy7, .inl (cL, 40, .inr (.inl Tp)))] sz)) 0 0 (va_A [(qy, .inr (4, [.ref qy1, .ref qy2, .ref qy3, .ref qy4, .int zM, .ref qy5, .ref qy6, .int zH, .ref qy7, .int zT, .long bg])), (qy1, .inl (cI, 40, .inl Mt)), (qy2, .inl (cI, 40, .inl Ms)), (qy3, .inl (cI, 40, .inl Mf)), (qy4, .inl (cI, 40, .inl Ml)), (qy5, .inl (cI, 20, .inl Ht)), (qy6, .inl (cI, 20, .inl Hu)), (qy7, .inl (cL, 40, .inr (.inl Tp)))] sz) := by
  refine Met.ofW (cc := cX4_below) (maxL := 1) (ret := (some .long)) (by decide) rfl ?_
  intro p e s m args below meth c s₁ B hml hv
  obtain ⟨rfl, hsz, hP, hK, hD0, hN⟩ := hv
  have hx := B.exec
  have hb := B.bytes
  have hr := B.returns
  have hts := atoms_spec (ws := wsX4_below) B.pre
  have hown : s.vm.findClass RX4 = some m.cls := findClass_of_methodNamed B.named
  have hlocks := B.notSynchronized
  subst hsz
  have hD := hD0.self (sz := s.heap.size)
  generalize hAe : va_A [(qy, .inr (4, [.ref qy1, .ref qy2, .ref qy3, .ref qy4, .int zM, .ref qy5, .ref qy6, .int zH, .ref qy7, .int zT, .long bg])), (qy1, .inl (cI, 40, .inl Mt)), (qy2, .inl (cI, 40, .inl Ms)), (qy3, .inl (cI, 40, .inl Mf)), (qy4, .inl (cI, 40, .inl Ml)), (qy5, .inl (cI, 20, .inl Ht)), (qy6, .inl (cI, 20, .inl Hu)), (qy7, .inl (cL, 40, .inr (.inl Tp)))] s.heap.size = A at hD ⊢
  have hA : ∀ q : Nat, s.heap.size ≤ q → A q := fun q h => by rw [← hAe]; exact Or.inr h
  have hP : va_P G vwCl [(qy, .inr (4, [.ref qy1, .ref qy2, .ref qy3, .ref qy4, .int zM, .ref qy5, .ref qy6, .int zH, .ref qy7, .int zT, .long bg])), (qy1, .inl (cI, 40, .inl Mt)), (qy2, .inl (cI, 40, .inl Ms)), (qy3, .inl (cI, 40, .inl Mf)), (qy4, .inl (cI, 40, .inl Ml)), (qy5, .inl (cI, 20, .inl Ht)), (qy6, .inl (cI, 20, .inl Hu)), (qy7, .inl (cL, 40, .inr (.inl Tp)))] s.heap := hP
  have hl := lv_entry ([.ref qy]) (n := 1) (Nat.le_of_ble_eq_true rfl)
  rw [lg_entry_eq]
  generalize (lg_sl ([.ref qy]) ++ List.replicate (1 - (lg_sl ([.ref qy])).length) Slot.unset).toArray = ls at hl ⊢
  have hl : lv_has ls 1 [(0, .ref qy)] := hl
  have hf77 := hts (.fieldLink RX4 77 "TempoMapsModel" "tapMany" "I") (by decide +kernel)
  have hiX4 : ∀ w ∈ wsX40, w ∈ wsX4_below := by decide +kernel
  have zl1 : ((1 : Int64)).toInt = 1 := by decide
  refine w_h (A := A) hP (fun H locs hP hS => ?_)
  have hn40 := hOM.1
  have hrg := hOM.2.1
  have hn20 := hOH.1
  have hrh := hOH.2.1
  have hn41 := hOT.1
  have hrt := hOT.2.1
  have zz0 : ((0 : Int32)).toInt = 0 := by decide
  refine lv_aload_n hx hb dX4_below_0 rfl (lv_at hl 0 rfl) ?_
  refine va_get (D := G) (ci := 4) (v := .int zT) (C := RX4) (T := TX4) (N := 11) hx hb hts hiX4 hown hK hP 0 rfl rfl 9 (by decide) hf77 (fun _ h9 => h9) rfl dX4_below_1 ?_
  refine lv_i2l hx hb dX4_below_4 rfl ?_
  refine lv_topl (fun x4 ex4 => ?_)
  have tx4 : x4.toInt = zT.toInt := by rw [ex4]; exact tc_i2l rfl
  refine lv_aload_n hx hb dX4_below_5 rfl (lv_at hl 0 rfl) ?_
  refine va_get (D := G) (ci := 4) (v := .int zT) (C := RX4) (T := TX4) (N := 11) hx hb hts hiX4 hown hK hP 0 rfl rfl 9 (by decide) hf77 (fun _ h9 => h9) rfl dX4_below_6 ?_
  refine lv_i2l hx hb dX4_below_9 rfl ?_
  refine lv_topl (fun x9 ex9 => ?_)
  have tx9 : x9.toInt = zT.toInt := by rw [ex9]; exact tc_i2l rfl
  refine lv_aload_n hx hb dX4_below_10 rfl (lv_at hl 0 rfl) ?_
  refine va_get (D := G) (ci := 4) (v := .int zT) (C := RX4) (T := TX4) (N := 11) hx hb hts hiX4 hown hK hP 0 rfl rfl 9 (by decide) hf77 (fun _ h9 => h9) rfl dX4_below_11 ?_
  refine lv_i2l hx hb dX4_below_14 rfl ?_
  refine lv_topl (fun x14 ex14 => ?_)
  have tx14 : x14.toInt = zT.toInt := by rw [ex14]; exact tc_i2l rfl
  have b15 := mul_bnd (show 0 ≤ zT.toInt ∧ zT.toInt ≤ 40 by omega) (show 0 ≤ zT.toInt ∧ zT.toInt ≤ 40 by omega)
  refine lv_lmul hx hb dX4_below_15 ?_
  refine lv_topl (fun x15 ex15 => ?_)
  have tx15 : x15.toInt = zT.toInt * zT.toInt := by rw [ex15]; exact tl_mul tx9 tx14 (by omega) (by omega)
  refine lv_lconst (v := 1) hx hb dX4_below_16 (by decide) ?_
  refine lv_lsub hx hb dX4_below_17 ?_
  refine lv_topl (fun x17 ex17 => ?_)
  have tx17 : x17.toInt = x15.toInt - 1 := by rw [ex17]; exact tl_sub rfl (show ((1 : Int64)).toInt = 1 by decide) (by omega) (by omega)
  have b18 := mul_abs (show -1600 ≤ x17.toInt ∧ x17.toInt ≤ 1600 by omega) (show 0 ≤ zT.toInt ∧ zT.toInt ≤ 40 by omega)
  have c18 := Int.mul_comm zT.toInt x17.toInt
  refine lv_lmul hx hb dX4_below_18 ?_
  refine lv_topl (fun x18 ex18 => ?_)
  have tx18 : x18.toInt = zT.toInt * x17.toInt := by rw [ex18]; exact tl_mul tx4 rfl (by omega) (by omega)
  exact W.lret (v := x18) hx hb hr (fun t ht hW => ⟨⟨x18, (), rfl, (by (try dsimp only); exact (by rw [tx18, tx17, tx15, hnT])), by rw [ht]; exact hP, hD⟩, hS.F ht⟩) hS.2.2 dX4_below_19

set_option maxHeartbeats 1000000 in
set_option maxRecDepth 100000 in
theorem ct_X4_count (l : Launch) (G : va_G) (cI cL : ClassId) (sz : Nat) (qy : Nat) (qy1 : Nat) (qy2 : Nat) (qy3 : Nat) (qy4 : Nat) (qy5 : Nat) (qy6 : Nat) (qy7 : Nat) (zM : Int32) (zH : Int32) (zT : Int32) (bg : Int64) (Mt : Nat → Int32) (Ms : Nat → Int32) (Mf : Nat → Int32) (Ml : Nat → Int32) (Ht : Nat → Int32) (Hu : Nat → Int32) (Tp : Nat → Int64) (p0 : Int32) (nm : Nat) (hnM : zM.toInt = nm) (hOM : okM nm Mt Ms Mf Ml) (nh : Nat) (hnH : zH.toInt = nh) (hOH : okH nh Ht Hu) (nt : Nat) (hnT : zT.toInt = nt) (hOT : okT nt Tp) : Met l yX4_count wsX4_count ({ frames := 0, cells := 0, slots := 0, locals := 0 }) (va_Pc [.ref qy, .int p0] (pre0 G cI cL [(qy, .inr (4, [.ref qy1, .ref qy2, .ref qy3, .ref qy4, .int zM, .ref qy5, .ref qy6, .int zH, .ref qy7, .int zT, .long bg])), (qy1, .inl (cI, 40, .inl Mt)), (qy2, .inl (cI, 40, .inl Ms)), (qy3, .inl (cI, 40, .inl Mf)), (qy4, .inl (cI, 40, .inl Ml)), (qy5, .inl (cI, 20, .inl Ht)), (qy6, .inl (cI, 20, .inl Hu)), (qy7, .inl (cL, 40, .inr (.inl Tp)))] sz)) (va_Qi (fun (r : Int32) (u : Unit) => (p0.toInt = 0 ∧ r.toInt = nm) ∨ (p0.toInt = 1 ∧ r.toInt = nh) ∨ (p0.toInt = 2 ∧ r.toInt = nt) ∨ ((p0.toInt < 0 ∨ 2 < p0.toInt) ∧ r.toInt = -2)) (fun (u : Unit) t => va_P G vwCl [(qy, .inr (4, [.ref qy1, .ref qy2, .ref qy3, .ref qy4, .int zM, .ref qy5, .ref qy6, .int zH, .ref qy7, .int zT, .long bg])), (qy1, .inl (cI, 40, .inl Mt)), (qy2, .inl (cI, 40, .inl Ms)), (qy3, .inl (cI, 40, .inl Mf)), (qy4, .inl (cI, 40, .inl Ml)), (qy5, .inl (cI, 20, .inl Ht)), (qy6, .inl (cI, 20, .inl Hu)), (qy7, .inl (cL, 40, .inr (.inl Tp)))] t.heap ∧ va_D (va_A [(qy, .inr (4, [.ref qy1, .ref qy2, .ref qy3, .ref qy4, .int zM, .ref qy5, .ref qy6, .int zH, .ref qy7, .int zT, .long bg])), (qy1, .inl (cI, 40, .inl Mt)), (qy2, .inl (cI, 40, .inl Ms)), (qy3, .inl (cI, 40, .inl Mf)), (qy4, .inl (cI, 40, .inl Ml)), (qy5, .inl (cI, 20, .inl Ht)), (qy6, .inl (cI, 20, .inl Hu)), (qy7, .inl (cL, 40, .inr (.inl Tp)))] sz) [(qy, .inr (4, [.ref qy1, .ref qy2, .ref qy3, .ref qy4, .int zM, .ref qy5, .ref qy6, .int zH, .ref qy7, .int zT, .long bg])), (qy1, .inl (cI, 40, .inl Mt)), (qy2, .inl (cI, 40, .inl Ms)), (qy3, .inl (cI, 40, .inl Mf)), (qy4, .inl (cI, 40, .inl Ml)), (qy5, .inl (cI, 20, .inl Ht)), (qy6, .inl (cI, 20, .inl Hu)), (qy7, .inl (cL, 40, .inr (.inl Tp)))]) (va_A [(qy, .inr (4, [.ref qy1, .ref qy2, .ref qy3, .ref qy4, .int zM, .ref qy5, .ref qy6, .int zH, .ref qy7, .int zT, .long bg])), (qy1, .inl (cI, 40, .inl Mt)), (qy2, .inl (cI, 40, .inl Ms)), (qy3, .inl (cI, 40, .inl Mf)), (qy4, .inl (cI, 40, .inl Ml)), (qy5, .inl (cI, 20, .inl Ht)), (qy6, .inl (cI, 20, .inl Hu)), (qy7, .inl (cL, 40, .inr (.inl Tp)))] sz)) 0 0 (va_A [(qy, .inr (4, [.ref qy1, .ref qy2, .ref qy3, .ref qy4, .int zM, .ref qy5, .ref qy6, .int zH, .ref qy7, .int zT, .long bg])), (qy1, .inl (cI, 40, .inl Mt)), (qy2, .inl (cI, 40, .inl Ms)), (qy3, .inl (cI, 40, .inl Mf)), (qy4, .inl (cI, 40, .inl Ml)), (qy5, .inl (cI, 20, .inl Ht)), (qy6, .inl (cI, 20, .inl Hu)), (qy7, .inl (cL, 40, .inr (.inl Tp)))] sz) := by
  refine Met.ofW (cc := cX4_count) (maxL := 2) (ret := (some .int)) (by decide) rfl ?_
  intro p e s m args below meth c s₁ B hml hv
  obtain ⟨rfl, hsz, hP, hK, hD0, hN⟩ := hv
  have hx := B.exec
  have hb := B.bytes
  have hr := B.returns
  have hts := atoms_spec (ws := wsX4_count) B.pre
  have hown : s.vm.findClass RX4 = some m.cls := findClass_of_methodNamed B.named
  have hlocks := B.notSynchronized
  subst hsz
  have hD := hD0.self (sz := s.heap.size)
  generalize hAe : va_A [(qy, .inr (4, [.ref qy1, .ref qy2, .ref qy3, .ref qy4, .int zM, .ref qy5, .ref qy6, .int zH, .ref qy7, .int zT, .long bg])), (qy1, .inl (cI, 40, .inl Mt)), (qy2, .inl (cI, 40, .inl Ms)), (qy3, .inl (cI, 40, .inl Mf)), (qy4, .inl (cI, 40, .inl Ml)), (qy5, .inl (cI, 20, .inl Ht)), (qy6, .inl (cI, 20, .inl Hu)), (qy7, .inl (cL, 40, .inr (.inl Tp)))] s.heap.size = A at hD ⊢
  have hA : ∀ q : Nat, s.heap.size ≤ q → A q := fun q h => by rw [← hAe]; exact Or.inr h
  have hP : va_P G vwCl [(qy, .inr (4, [.ref qy1, .ref qy2, .ref qy3, .ref qy4, .int zM, .ref qy5, .ref qy6, .int zH, .ref qy7, .int zT, .long bg])), (qy1, .inl (cI, 40, .inl Mt)), (qy2, .inl (cI, 40, .inl Ms)), (qy3, .inl (cI, 40, .inl Mf)), (qy4, .inl (cI, 40, .inl Ml)), (qy5, .inl (cI, 20, .inl Ht)), (qy6, .inl (cI, 20, .inl Hu)), (qy7, .inl (cL, 40, .inr (.inl Tp)))] s.heap := hP
  have hl := lv_entry ([.ref qy, .int p0]) (n := 2) (Nat.le_of_ble_eq_true rfl)
  rw [lg_entry_eq]
  generalize (lg_sl ([.ref qy, .int p0]) ++ List.replicate (2 - (lg_sl ([.ref qy, .int p0])).length) Slot.unset).toArray = ls at hl ⊢
  have hl : lv_has ls 2 [(0, .ref qy), (1, .int p0)] := hl
  have hf32 := hts (.fieldLink RX4 32 "TempoMapsModel" "marks" "I") (by decide +kernel)
  have hf67 := hts (.fieldLink RX4 67 "TempoMapsModel" "holds" "I") (by decide +kernel)
  have hf77 := hts (.fieldLink RX4 77 "TempoMapsModel" "tapMany" "I") (by decide +kernel)
  have hiX4 : ∀ w ∈ wsX40, w ∈ wsX4_count := by decide +kernel
  have zim2 : ((-2 : Int32)).toInt = -2 := by decide
  have zi1 : ((1 : Int32)).toInt = 1 := by decide
  have zi2 : ((2 : Int32)).toInt = 2 := by decide
  refine w_h (A := A) hP (fun H locs hP hS => ?_)
  have hn40 := hOM.1
  have hrg := hOM.2.1
  have hn20 := hOH.1
  have hrh := hOH.2.1
  have hn41 := hOT.1
  have hrt := hOT.2.1
  have zz0 : ((0 : Int32)).toInt = 0 := by decide
  refine lv_iload_n hx hb dX4_count_0 rfl (lv_at hl 1 rfl) ?_
  refine lv_if_ne (tgt := 11) hx hb dX4_count_1 (by decide) (fun c1 => ?_) (fun c1 => ?_)
  · have k1 : (p0.toInt : Int) ≠ 0 := i_ne rfl (show ((0 : Int32)).toInt = 0 by decide) c1
    refine lv_iload_n hx hb dX4_count_11 rfl (lv_at hl 1 rfl) ?_
    refine lv_iconst (v := 1) hx hb dX4_count_12 (by decide) ?_
    refine lv_icmp_ne (tgt := 23) hx hb dX4_count_13 (by decide) (fun c13 => ?_) (fun c13 => ?_)
    · have k13 : (p0.toInt : Int) ≠ 1 := i_ne rfl (show ((1 : Int32)).toInt = 1 by decide) c13
      refine lv_iload_n hx hb dX4_count_23 rfl (lv_at hl 1 rfl) ?_
      refine lv_iconst (v := 2) hx hb dX4_count_24 (by decide) ?_
      refine lv_icmp_ne (tgt := 35) hx hb dX4_count_25 (by decide) (fun c25 => ?_) (fun c25 => ?_)
      · have k25 : (p0.toInt : Int) ≠ 2 := i_ne rfl (show ((2 : Int32)).toInt = 2 by decide) c25
        refine lv_bipush (v := (-2)) hx hb dX4_count_35 (by decide) ?_
        exact W.iret (v := (-2)) hx hb hr (fun t ht hW => ⟨⟨(-2), (), rfl, (by (try dsimp only); exact (by omega)), by rw [ht]; exact hP, hD⟩, hS.F ht⟩) hS.2.2 dX4_count_37
      · have k25 : (p0.toInt : Int) = 2 := i_eq rfl (show ((2 : Int32)).toInt = 2 by decide) c25
        refine lv_aload_n hx hb dX4_count_28 rfl (lv_at hl 0 rfl) ?_
        refine va_get (D := G) (ci := 4) (v := .int zT) (C := RX4) (T := TX4) (N := 11) hx hb hts hiX4 hown hK hP 0 rfl rfl 9 (by decide) hf77 (fun _ h9 => h9) rfl dX4_count_29 ?_
        refine lv_goto (tgt := 37) hx hb dX4_count_32 (by decide) ?_
        exact W.iret (v := zT) hx hb hr (fun t ht hW => ⟨⟨zT, (), rfl, (by (try dsimp only); exact (by omega)), by rw [ht]; exact hP, hD⟩, hS.F ht⟩) hS.2.2 dX4_count_37
    · have k13 : (p0.toInt : Int) = 1 := i_eq rfl (show ((1 : Int32)).toInt = 1 by decide) c13
      refine lv_aload_n hx hb dX4_count_16 rfl (lv_at hl 0 rfl) ?_
      refine va_get (D := G) (ci := 4) (v := .int zH) (C := RX4) (T := TX4) (N := 11) hx hb hts hiX4 hown hK hP 0 rfl rfl 7 (by decide) hf67 (fun _ h9 => h9) rfl dX4_count_17 ?_
      refine lv_goto (tgt := 37) hx hb dX4_count_20 (by decide) ?_
      exact W.iret (v := zH) hx hb hr (fun t ht hW => ⟨⟨zH, (), rfl, (by (try dsimp only); exact (by omega)), by rw [ht]; exact hP, hD⟩, hS.F ht⟩) hS.2.2 dX4_count_37
  · have k1 : (p0.toInt : Int) = 0 := i_eq rfl (show ((0 : Int32)).toInt = 0 by decide) c1
    refine lv_aload_n hx hb dX4_count_4 rfl (lv_at hl 0 rfl) ?_
    refine va_get (D := G) (ci := 4) (v := .int zM) (C := RX4) (T := TX4) (N := 11) hx hb hts hiX4 hown hK hP 0 rfl rfl 4 (by decide) hf32 (fun _ h9 => h9) rfl dX4_count_5 ?_
    refine lv_goto (tgt := 37) hx hb dX4_count_8 (by decide) ?_
    exact W.iret (v := zM) hx hb hr (fun t ht hW => ⟨⟨zM, (), rfl, (by (try dsimp only); exact (by omega)), by rw [ht]; exact hP, hD⟩, hS.F ht⟩) hS.2.2 dX4_count_37

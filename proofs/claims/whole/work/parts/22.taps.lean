set_option maxHeartbeats 1000000 in
set_option maxRecDepth 100000 in
theorem ct_X2_add (l : Launch) (G : va_G) (cI cL : ClassId) (sz : Nat) (qt : Nat) (qt1 : Nat) (zt : Int32) (kp : Nat → Int64) (p0 : Int64) (nt : Nat) (hnt : zt.toInt = nt) (hOt : okT nt kp) : Met l yX2_add wsX2_add ({ frames := 0, cells := 0, slots := 0, locals := 0 }) (va_Pc [.ref qt, .long p0] (pre0 G cI cL [(qt, .inr (2, [.ref qt1, .int zt])), (qt1, .inl (cL, 40, .inr (.inl kp)))] sz)) (va_Qi (fun (r : Int32) (u : Int32 × (Nat → Int64)) => ∃ n' : Nat, u.1.toInt = n' ∧ tAdd nt kp p0 r.toInt n' u.2) (fun (u : Int32 × (Nat → Int64)) t => va_P G vwCl [(qt, .inr (2, [.ref qt1, .int u.1])), (qt1, .inl (cL, 40, .inr (.inl (u.2))))] t.heap ∧ va_D (va_A [(qt, .inr (2, [.ref qt1, .int zt])), (qt1, .inl (cL, 40, .inr (.inl kp)))] sz) [(qt, .inr (2, [.ref qt1, .int u.1])), (qt1, .inl (cL, 40, .inr (.inl (u.2))))]) (va_A [(qt, .inr (2, [.ref qt1, .int zt])), (qt1, .inl (cL, 40, .inr (.inl kp)))] sz)) 0 0 (va_A [(qt, .inr (2, [.ref qt1, .int zt])), (qt1, .inl (cL, 40, .inr (.inl kp)))] sz) := by
  refine Met.ofW (cc := cX2_add) (maxL := 3) (ret := (some .int)) (by decide) rfl ?_
  intro p e s m args below meth c s₁ B hml hv
  obtain ⟨rfl, hsz, hP, hK, hD0, hN⟩ := hv
  have hx := B.exec
  have hb := B.bytes
  have hr := B.returns
  have hts := atoms_spec (ws := wsX2_add) B.pre
  have hown : s.vm.findClass RX2 = some m.cls := findClass_of_methodNamed B.named
  have hlocks := B.notSynchronized
  subst hsz
  have hD := hD0.self (sz := s.heap.size)
  generalize hAe : va_A [(qt, .inr (2, [.ref qt1, .int zt])), (qt1, .inl (cL, 40, .inr (.inl kp)))] s.heap.size = A at hD ⊢
  have hA : ∀ q : Nat, s.heap.size ≤ q → A q := fun q h => by rw [← hAe]; exact Or.inr h
  have hP : va_P G vwCl [(qt, .inr (2, [.ref qt1, .int zt])), (qt1, .inl (cL, 40, .inr (.inl kp)))] s.heap := hP
  have hl := lv_entry ([.ref qt, .long p0]) (n := 3) (Nat.le_of_ble_eq_true rfl)
  rw [lg_entry_eq]
  generalize (lg_sl ([.ref qt, .long p0]) ++ List.replicate (3 - (lg_sl ([.ref qt, .long p0])).length) Slot.unset).toArray = ls at hl ⊢
  have hl : lv_has ls 3 [(0, .ref qt), (1, .long p0)] := hl
  have hf15 := hts (.fieldLink RX2 15 "TempoMaps$Taps" "size" "I") (by decide +kernel)
  have hf9 := hts (.fieldLink RX2 9 "TempoMaps$Taps" "times" "[J") (by decide +kernel)
  have hiX2 : ∀ w ∈ wsX20, w ∈ wsX2_add := by decide +kernel
  have zim4 : ((-4 : Int32)).toInt = -4 := by decide
  have zim3 : ((-3 : Int32)).toInt = -3 := by decide
  have zi1 : ((1 : Int32)).toInt = 1 := by decide
  have zi40 : ((40 : Int32)).toInt = 40 := by decide
  refine w_h (A := A) hP (fun H locs hP hS => ?_)
  have hn40 := hOt.1
  have hrg := hOt.2.1
  refine lv_aload_n hx hb dX2_add_0 rfl (lv_at hl 0 rfl) ?_
  refine va_get (D := G) (ci := 2) (v := .int zt) (C := RX2) (T := TX2) (N := 2) hx hb hts hiX2 hown hK hP 0 rfl rfl 1 (by decide) hf15 (fun _ h9 => h9) rfl dX2_add_1 ?_
  refine lv_if_le (tgt := 26) hx hb dX2_add_4 (by decide) (fun c4 => ?_) (fun c4 => ?_)
  · have k4 : (zt.toInt : Int) ≤ 0 := i_le rfl (show ((0 : Int32)).toInt = 0 by decide) c4
    refine lv_aload_n hx hb dX2_add_26 rfl (lv_at hl 0 rfl) ?_
    refine va_get (D := G) (ci := 2) (v := .int zt) (C := RX2) (T := TX2) (N := 2) hx hb hts hiX2 hown hK hP 0 rfl rfl 1 (by decide) hf15 (fun _ h9 => h9) rfl dX2_add_27 ?_
    refine lv_bipush (v := 40) hx hb dX2_add_30 (by decide) ?_
    refine lv_icmp_lt (tgt := 38) hx hb dX2_add_32 (by decide) (fun c32 => ?_) (fun c32 => ?_)
    · have k32 : (zt.toInt : Int) < 40 := i_lt rfl (show ((40 : Int32)).toInt = 40 by decide) c32
      refine lv_aload_n hx hb dX2_add_38 rfl (lv_at hl 0 rfl) ?_
      refine va_get (D := G) (ci := 2) (v := .ref qt1) (C := RX2) (T := TX2) (N := 2) hx hb hts hiX2 hown hK hP 0 rfl rfl 0 (by decide) hf9 (fun _ h9 => h9) rfl dX2_add_39 ?_
      refine lv_aload_n hx hb dX2_add_42 rfl (lv_at hl 0 rfl) ?_
      refine va_get (D := G) (ci := 2) (v := .int zt) (C := RX2) (T := TX2) (N := 2) hx hb hts hiX2 hown hK hP 0 rfl rfl 1 (by decide) hf15 (fun _ h9 => h9) rfl dX2_add_43 ?_
      refine lv_lload_n hx hb dX2_add_46 rfl (lv_at hl 1 rfl) ?_
      refine va_last hx hb hK hP hD hS 1 1 rfl rfl (vi_in rfl (by omega) (by omega)) dX2_add_47 (fun H locs hP hD hS => ?_)
      rw [cl_nat rfl (show zt.toInt = ((zt.toInt.toNat : Nat) : Int) by omega)] at hP hD
      have hP : va_P G vwCl [(qt, .inr (2, [.ref qt1, .int zt])), (qt1, .inl (cL, 40, .inr (.inl (vp_updL kp zt.toInt.toNat p0))))] H := hP
      have hD : va_D A [(qt, .inr (2, [.ref qt1, .int zt])), (qt1, .inl (cL, 40, .inr (.inl (vp_updL kp zt.toInt.toNat p0))))] := hD
      refine lv_aload_n hx hb dX2_add_48 rfl (lv_at hl 0 rfl) ?_
      refine lv_dup hx hb dX2_add_49 rfl ?_
      refine va_get (D := G) (ci := 2) (v := .int zt) (C := RX2) (T := TX2) (N := 2) hx hb hts hiX2 hown hK hP 0 rfl rfl 1 (by decide) hf15 (fun _ h9 => h9) rfl dX2_add_50 ?_
      refine lv_iconst (v := 1) hx hb dX2_add_53 (by decide) ?_
      refine lv_iadd hx hb dX2_add_54 ?_
      refine lv_topi (fun x54 ex54 => ?_)
      have tx54 : x54.toInt = zt.toInt + 1 := by rw [ex54]; exact ti_add rfl (show ((1 : Int32)).toInt = 1 by decide) (by omega) (by omega)
      refine va_put (D := G) (ci := 2) (v := .int x54) (ty := .int) (C := RX2) (T := TX2) (N := 2) hx hb hts hiX2 tyX2 tyX2_ok nmX2 hown hK hP hD hS 0 rfl rfl 1 (by decide) hf15 (fun _ h9 => h9) rfl (by decide +kernel) rfl rfl (Nat.le_of_ble_eq_true rfl) dX2_add_55 (fun H locs hP hD hS => ?_)
      have hP : va_P G vwCl [(qt, .inr (2, [.ref qt1, .int x54])), (qt1, .inl (cL, 40, .inr (.inl (vp_updL kp zt.toInt.toNat p0))))] H := hP
      have hD : va_D A [(qt, .inr (2, [.ref qt1, .int x54])), (qt1, .inl (cL, 40, .inr (.inl (vp_updL kp zt.toInt.toNat p0))))] := hD
      refine lv_aload_n hx hb dX2_add_58 rfl (lv_at hl 0 rfl) ?_
      refine va_get (D := G) (ci := 2) (v := .int x54) (C := RX2) (T := TX2) (N := 2) hx hb hts hiX2 hown hK hP 0 rfl rfl 1 (by decide) hf15 (fun _ h9 => h9) rfl dX2_add_59 ?_
      exact W.iret (v := x54) hx hb hr (fun t ht hW => ⟨⟨x54, (x54, vp_updL kp zt.toInt.toNat p0), rfl, (by (try dsimp only); exact ⟨nt + 1, by omega, Or.inr (Or.inr ⟨fun _ => by omega, by omega, by omega, rfl, by rw [show zt.toInt.toNat = nt by omega]⟩)⟩), by rw [ht]; exact hP, hD⟩, hS.F ht⟩) hS.2.2 dX2_add_62
    · have k32 : (40 : Int) ≤ zt.toInt := i_nlt rfl (show ((40 : Int32)).toInt = 40 by decide) c32
      refine lv_bipush (v := (-4)) hx hb dX2_add_35 (by decide) ?_
      exact W.iret (v := (-4)) hx hb hr (fun t ht hW => ⟨⟨(-4), (zt, kp), rfl, (by (try dsimp only); exact ⟨nt, hnt, Or.inr (Or.inl ⟨fun _ => by omega, by omega, by omega, rfl, rfl⟩)⟩), by rw [ht]; exact hP, hD⟩, hS.F ht⟩) hS.2.2 dX2_add_37
  · have k4 : (0 : Int) < zt.toInt := i_nle rfl (show ((0 : Int32)).toInt = 0 by decide) c4
    refine lv_lload_n hx hb dX2_add_7 rfl (lv_at hl 1 rfl) ?_
    refine lv_aload_n hx hb dX2_add_8 rfl (lv_at hl 0 rfl) ?_
    refine va_get (D := G) (ci := 2) (v := .ref qt1) (C := RX2) (T := TX2) (N := 2) hx hb hts hiX2 hown hK hP 0 rfl rfl 0 (by decide) hf9 (fun _ h9 => h9) rfl dX2_add_9 ?_
    refine lv_aload_n hx hb dX2_add_12 rfl (lv_at hl 0 rfl) ?_
    refine va_get (D := G) (ci := 2) (v := .int zt) (C := RX2) (T := TX2) (N := 2) hx hb hts hiX2 hown hK hP 0 rfl rfl 1 (by decide) hf15 (fun _ h9 => h9) rfl dX2_add_13 ?_
    refine lv_iconst (v := 1) hx hb dX2_add_16 (by decide) ?_
    refine lv_isub hx hb dX2_add_17 ?_
    refine lv_topi (fun x17 ex17 => ?_)
    have tx17 : x17.toInt = zt.toInt - 1 := by rw [ex17]; exact ti_sub rfl (show ((1 : Int32)).toInt = 1 by decide) (by omega) (by omega)
    refine va_lald hx hb hK hP 1 1 rfl rfl (vi_in rfl (by omega) (by omega)) dX2_add_18 ?_
    refine lv_topl (fun x18 ex18 => ?_)
    have ex18 : x18 = kp (nt - 1) := by rw [ex18]; exact congrArg _ (cl_nat rfl (by omega))
    have tx18 : x18.toInt = (kp (nt - 1)).toInt := by rw [ex18]
    refine W.lcmp hx hb dX2_add_19 ?_
    refine lv_if_gt (tgt := 26) hx hb dX2_add_20 (by decide) (fun c20 => ?_) (fun c20 => ?_)
    · have k20 : (x18.toInt : Int) < p0.toInt := l_lt rfl rfl ((lg_cmp_gt _ _).mp c20)
      refine lv_aload_n hx hb dX2_add_26 rfl (lv_at hl 0 rfl) ?_
      refine va_get (D := G) (ci := 2) (v := .int zt) (C := RX2) (T := TX2) (N := 2) hx hb hts hiX2 hown hK hP 0 rfl rfl 1 (by decide) hf15 (fun _ h9 => h9) rfl dX2_add_27 ?_
      refine lv_bipush (v := 40) hx hb dX2_add_30 (by decide) ?_
      refine lv_icmp_lt (tgt := 38) hx hb dX2_add_32 (by decide) (fun c32 => ?_) (fun c32 => ?_)
      · have k32 : (zt.toInt : Int) < 40 := i_lt rfl (show ((40 : Int32)).toInt = 40 by decide) c32
        refine lv_aload_n hx hb dX2_add_38 rfl (lv_at hl 0 rfl) ?_
        refine va_get (D := G) (ci := 2) (v := .ref qt1) (C := RX2) (T := TX2) (N := 2) hx hb hts hiX2 hown hK hP 0 rfl rfl 0 (by decide) hf9 (fun _ h9 => h9) rfl dX2_add_39 ?_
        refine lv_aload_n hx hb dX2_add_42 rfl (lv_at hl 0 rfl) ?_
        refine va_get (D := G) (ci := 2) (v := .int zt) (C := RX2) (T := TX2) (N := 2) hx hb hts hiX2 hown hK hP 0 rfl rfl 1 (by decide) hf15 (fun _ h9 => h9) rfl dX2_add_43 ?_
        refine lv_lload_n hx hb dX2_add_46 rfl (lv_at hl 1 rfl) ?_
        refine va_last hx hb hK hP hD hS 1 1 rfl rfl (vi_in rfl (by omega) (by omega)) dX2_add_47 (fun H locs hP hD hS => ?_)
        rw [cl_nat rfl (show zt.toInt = ((zt.toInt.toNat : Nat) : Int) by omega)] at hP hD
        have hP : va_P G vwCl [(qt, .inr (2, [.ref qt1, .int zt])), (qt1, .inl (cL, 40, .inr (.inl (vp_updL kp zt.toInt.toNat p0))))] H := hP
        have hD : va_D A [(qt, .inr (2, [.ref qt1, .int zt])), (qt1, .inl (cL, 40, .inr (.inl (vp_updL kp zt.toInt.toNat p0))))] := hD
        refine lv_aload_n hx hb dX2_add_48 rfl (lv_at hl 0 rfl) ?_
        refine lv_dup hx hb dX2_add_49 rfl ?_
        refine va_get (D := G) (ci := 2) (v := .int zt) (C := RX2) (T := TX2) (N := 2) hx hb hts hiX2 hown hK hP 0 rfl rfl 1 (by decide) hf15 (fun _ h9 => h9) rfl dX2_add_50 ?_
        refine lv_iconst (v := 1) hx hb dX2_add_53 (by decide) ?_
        refine lv_iadd hx hb dX2_add_54 ?_
        refine lv_topi (fun x54_2 ex54_2 => ?_)
        have tx54_2 : x54_2.toInt = zt.toInt + 1 := by rw [ex54_2]; exact ti_add rfl (show ((1 : Int32)).toInt = 1 by decide) (by omega) (by omega)
        refine va_put (D := G) (ci := 2) (v := .int x54_2) (ty := .int) (C := RX2) (T := TX2) (N := 2) hx hb hts hiX2 tyX2 tyX2_ok nmX2 hown hK hP hD hS 0 rfl rfl 1 (by decide) hf15 (fun _ h9 => h9) rfl (by decide +kernel) rfl rfl (Nat.le_of_ble_eq_true rfl) dX2_add_55 (fun H locs hP hD hS => ?_)
        have hP : va_P G vwCl [(qt, .inr (2, [.ref qt1, .int x54_2])), (qt1, .inl (cL, 40, .inr (.inl (vp_updL kp zt.toInt.toNat p0))))] H := hP
        have hD : va_D A [(qt, .inr (2, [.ref qt1, .int x54_2])), (qt1, .inl (cL, 40, .inr (.inl (vp_updL kp zt.toInt.toNat p0))))] := hD
        refine lv_aload_n hx hb dX2_add_58 rfl (lv_at hl 0 rfl) ?_
        refine va_get (D := G) (ci := 2) (v := .int x54_2) (C := RX2) (T := TX2) (N := 2) hx hb hts hiX2 hown hK hP 0 rfl rfl 1 (by decide) hf15 (fun _ h9 => h9) rfl dX2_add_59 ?_
        exact W.iret (v := x54_2) hx hb hr (fun t ht hW => ⟨⟨x54_2, (x54_2, vp_updL kp zt.toInt.toNat p0), rfl, (by (try dsimp only); exact ⟨nt + 1, by omega, Or.inr (Or.inr ⟨fun _ => by omega, by omega, by omega, rfl, by rw [show zt.toInt.toNat = nt by omega]⟩)⟩), by rw [ht]; exact hP, hD⟩, hS.F ht⟩) hS.2.2 dX2_add_62
      · have k32 : (40 : Int) ≤ zt.toInt := i_nlt rfl (show ((40 : Int32)).toInt = 40 by decide) c32
        refine lv_bipush (v := (-4)) hx hb dX2_add_35 (by decide) ?_
        exact W.iret (v := (-4)) hx hb hr (fun t ht hW => ⟨⟨(-4), (zt, kp), rfl, (by (try dsimp only); exact ⟨nt, hnt, Or.inr (Or.inl ⟨fun _ => by omega, by omega, by omega, rfl, rfl⟩)⟩), by rw [ht]; exact hP, hD⟩, hS.F ht⟩) hS.2.2 dX2_add_37
    · have k20 : (p0.toInt : Int) ≤ x18.toInt := l_nlt rfl rfl (fun h9 => c20 ((lg_cmp_gt _ _).mpr h9))
      refine lv_bipush (v := (-3)) hx hb dX2_add_23 (by decide) ?_
      exact W.iret (v := (-3)) hx hb hr (fun t ht hW => ⟨⟨(-3), (zt, kp), rfl, (by (try dsimp only); exact ⟨nt, hnt, Or.inl ⟨by omega, by omega, by omega, rfl, rfl⟩⟩), by rw [ht]; exact hP, hD⟩, hS.F ht⟩) hS.2.2 dX2_add_25
set_option maxHeartbeats 1000000 in
set_option maxRecDepth 100000 in
theorem ct_X2_removeAll (l : Launch) (G : va_G) (cI cL : ClassId) (sz : Nat) (qt : Nat) (qt1 : Nat) (zt : Int32) (kp : Nat → Int64) : Met l yX2_removeAll wsX2_removeAll ({ frames := 0, cells := 0, slots := 0, locals := 0 }) (va_Pc [.ref qt] (pre0 G cI cL [(qt, .inr (2, [.ref qt1, .int zt])), (qt1, .inl (cL, 40, .inr (.inl kp)))] sz)) (va_Qi (fun (r : Int32) (u : Int32) => r = zt ∧ u.toInt = 0) (fun (u : Int32) t => va_P G vwCl [(qt, .inr (2, [.ref qt1, .int u])), (qt1, .inl (cL, 40, .inr (.inl kp)))] t.heap ∧ va_D (va_A [(qt, .inr (2, [.ref qt1, .int zt])), (qt1, .inl (cL, 40, .inr (.inl kp)))] sz) [(qt, .inr (2, [.ref qt1, .int u])), (qt1, .inl (cL, 40, .inr (.inl kp)))]) (va_A [(qt, .inr (2, [.ref qt1, .int zt])), (qt1, .inl (cL, 40, .inr (.inl kp)))] sz)) 0 0 (va_A [(qt, .inr (2, [.ref qt1, .int zt])), (qt1, .inl (cL, 40, .inr (.inl kp)))] sz) := by
  refine Met.ofW (cc := cX2_removeAll) (maxL := 2) (ret := (some .int)) (by decide) rfl ?_
  intro p e s m args below meth c s₁ B hml hv
  obtain ⟨rfl, hsz, hP, hK, hD0, hN⟩ := hv
  have hx := B.exec
  have hb := B.bytes
  have hr := B.returns
  have hts := atoms_spec (ws := wsX2_removeAll) B.pre
  have hown : s.vm.findClass RX2 = some m.cls := findClass_of_methodNamed B.named
  have hlocks := B.notSynchronized
  subst hsz
  have hD := hD0.self (sz := s.heap.size)
  generalize hAe : va_A [(qt, .inr (2, [.ref qt1, .int zt])), (qt1, .inl (cL, 40, .inr (.inl kp)))] s.heap.size = A at hD ⊢
  have hA : ∀ q : Nat, s.heap.size ≤ q → A q := fun q h => by rw [← hAe]; exact Or.inr h
  have hP : va_P G vwCl [(qt, .inr (2, [.ref qt1, .int zt])), (qt1, .inl (cL, 40, .inr (.inl kp)))] s.heap := hP
  have hl := lv_entry ([.ref qt]) (n := 2) (Nat.le_of_ble_eq_true rfl)
  rw [lg_entry_eq]
  generalize (lg_sl ([.ref qt]) ++ List.replicate (2 - (lg_sl ([.ref qt])).length) Slot.unset).toArray = ls at hl ⊢
  have hl : lv_has ls 2 [(0, .ref qt)] := hl
  have hf15 := hts (.fieldLink RX2 15 "TempoMaps$Taps" "size" "I") (by decide +kernel)
  have hiX2 : ∀ w ∈ wsX20, w ∈ wsX2_removeAll := by decide +kernel
  have zi0 : ((0 : Int32)).toInt = 0 := by decide
  refine w_h (A := A) hP (fun H locs hP hS => ?_)
  refine lv_aload_n hx hb dX2_removeAll_0 rfl (lv_at hl 0 rfl) ?_
  refine va_get (D := G) (ci := 2) (v := .int zt) (C := RX2) (T := TX2) (N := 2) hx hb hts hiX2 hown hK hP 0 rfl rfl 1 (by decide) hf15 (fun _ h9 => h9) rfl dX2_removeAll_1 ?_
  refine lv_istore_n (lv' := [(1, .int zt), (0, .ref qt)]) hx hb dX2_removeAll_4 rfl hl (by decide) rfl (fun ls hl => ?_)
  refine lv_aload_n hx hb dX2_removeAll_5 rfl (lv_at hl 1 rfl) ?_
  refine lv_iconst (v := 0) hx hb dX2_removeAll_6 (by decide) ?_
  refine va_put (D := G) (ci := 2) (v := .int 0) (ty := .int) (C := RX2) (T := TX2) (N := 2) hx hb hts hiX2 tyX2 tyX2_ok nmX2 hown hK hP hD hS 0 rfl rfl 1 (by decide) hf15 (fun _ h9 => h9) rfl (by decide +kernel) rfl rfl (Nat.le_of_ble_eq_true rfl) dX2_removeAll_7 (fun H locs hP hD hS => ?_)
  have hP : va_P G vwCl [(qt, .inr (2, [.ref qt1, .int 0])), (qt1, .inl (cL, 40, .inr (.inl kp)))] H := hP
  have hD : va_D A [(qt, .inr (2, [.ref qt1, .int 0])), (qt1, .inl (cL, 40, .inr (.inl kp)))] := hD
  refine lv_iload_n hx hb dX2_removeAll_10 rfl (lv_at hl 0 rfl) ?_
  exact W.iret (v := zt) hx hb hr (fun t ht hW => ⟨⟨zt, 0, rfl, (by (try dsimp only); exact ⟨rfl, by decide⟩), by rw [ht]; exact hP, hD⟩, hS.F ht⟩) hS.2.2 dX2_removeAll_11
set_option maxHeartbeats 1000000 in
set_option maxRecDepth 100000 in
theorem ct_X2_above (l : Launch) (G : va_G) (cI cL : ClassId) (sz : Nat) (qt : Nat) (qt1 : Nat) (zt : Int32) (kp : Nat → Int64) (nt : Nat) (hnt : zt.toInt = nt) (hOt : okT nt kp) : Met l yX2_above wsX2_above ({ frames := 0, cells := 0, slots := 0, locals := 0 }) (va_Pc [.ref qt] (pre0 G cI cL [(qt, .inr (2, [.ref qt1, .int zt])), (qt1, .inl (cL, 40, .inr (.inl kp)))] sz)) (va_Ql (fun (r : Int64) (u : Unit) => r.toInt = nt * sP kp nt - sI nt * sT kp nt) (fun (u : Unit) t => va_P G vwCl [(qt, .inr (2, [.ref qt1, .int zt])), (qt1, .inl (cL, 40, .inr (.inl kp)))] t.heap ∧ va_D (va_A [(qt, .inr (2, [.ref qt1, .int zt])), (qt1, .inl (cL, 40, .inr (.inl kp)))] sz) [(qt, .inr (2, [.ref qt1, .int zt])), (qt1, .inl (cL, 40, .inr (.inl kp)))]) (va_A [(qt, .inr (2, [.ref qt1, .int zt])), (qt1, .inl (cL, 40, .inr (.inl kp)))] sz)) 0 0 (va_A [(qt, .inr (2, [.ref qt1, .int zt])), (qt1, .inl (cL, 40, .inr (.inl kp)))] sz) := by
  refine Met.ofW (cc := cX2_above) (maxL := 8) (ret := (some .long)) (by decide) rfl ?_
  intro p e s m args below meth c s₁ B hml hv
  obtain ⟨rfl, hsz, hP, hK, hD0, hN⟩ := hv
  have hx := B.exec
  have hb := B.bytes
  have hr := B.returns
  have hts := atoms_spec (ws := wsX2_above) B.pre
  have hown : s.vm.findClass RX2 = some m.cls := findClass_of_methodNamed B.named
  have hlocks := B.notSynchronized
  subst hsz
  have hD := hD0.self (sz := s.heap.size)
  generalize hAe : va_A [(qt, .inr (2, [.ref qt1, .int zt])), (qt1, .inl (cL, 40, .inr (.inl kp)))] s.heap.size = A at hD ⊢
  have hA : ∀ q : Nat, s.heap.size ≤ q → A q := fun q h => by rw [← hAe]; exact Or.inr h
  have hP : va_P G vwCl [(qt, .inr (2, [.ref qt1, .int zt])), (qt1, .inl (cL, 40, .inr (.inl kp)))] s.heap := hP
  have hl := lv_entry ([.ref qt]) (n := 8) (Nat.le_of_ble_eq_true rfl)
  rw [lg_entry_eq]
  generalize (lg_sl ([.ref qt]) ++ List.replicate (8 - (lg_sl ([.ref qt])).length) Slot.unset).toArray = ls at hl ⊢
  have hl : lv_has ls 8 [(0, .ref qt)] := hl
  have hf15 := hts (.fieldLink RX2 15 "TempoMaps$Taps" "size" "I") (by decide +kernel)
  have hf9 := hts (.fieldLink RX2 9 "TempoMaps$Taps" "times" "[J") (by decide +kernel)
  have hiX2 : ∀ w ∈ wsX20, w ∈ wsX2_above := by decide +kernel
  have zi0 : ((0 : Int32)).toInt = 0 := by decide
  have zi1 : ((1 : Int32)).toInt = 1 := by decide
  have zl0 : ((0 : Int64)).toInt = 0 := by decide
  refine w_h (A := A) hP (fun H locs hP hS => ?_)
  have hn40 := hOt.1
  have hrg := hOt.2.1
  refine lv_lconst (v := 0) hx hb dX2_above_0 (by decide) ?_
  refine lv_lstore_n (lv' := [(1, .long 0), (0, .ref qt)]) hx hb dX2_above_1 rfl hl (by decide) rfl (fun ls hl => ?_)
  refine lv_lconst (v := 0) hx hb dX2_above_2 (by decide) ?_
  refine lv_lstore_n (lv' := [(3, .long 0), (1, .long 0), (0, .ref qt)]) hx hb dX2_above_3 rfl hl (by decide) rfl (fun ls hl => ?_)
  refine lv_lconst (v := 0) hx hb dX2_above_4 (by decide) ?_
  refine lv_lstore (lv' := [(5, .long 0), (3, .long 0), (1, .long 0), (0, .ref qt)]) hx hb dX2_above_5  hl (by decide) rfl (fun ls hl => ?_)
  refine lv_iconst (v := 0) hx hb dX2_above_7 (by decide) ?_
  refine lv_istore (lv' := [(7, .int 0), (5, .long 0), (3, .long 0), (1, .long 0), (0, .ref qt)]) hx hb dX2_above_8  hl (by decide) rfl (fun ls hl => ?_)
  refine W_loop4 (fun (x1 : Int64) (x3 : Int64) (x5 : Int64) (x7 : Int32) ls H locs => va_P G vwCl [(qt, .inr (2, [.ref qt1, .int zt])), (qt1, .inl (cL, 40, .inr (.inl kp)))] H ∧ va_D A [(qt, .inr (2, [.ref qt1, .int zt])), (qt1, .inl (cL, 40, .inr (.inl kp)))] ∧ va_S A s.heap H locs ∧ lv_has ls 8 [(0, .ref qt), (1, .long x1), (3, .long x3), (5, .long x5), (7, .int x7)] ∧ (0 ≤ x7.toInt ∧ x7.toInt ≤ nt) ∧ (x1.toInt = sI x7.toInt.toNat) ∧ (x3.toInt = sT kp x7.toInt.toNat) ∧ (x5.toInt = sP kp x7.toInt.toNat)) (fun (x1 : Int64) (x3 : Int64) (x5 : Int64) (x7 : Int32) => (nt - x7.toInt).toNat) (fun x1 x3 x5 x7 ls H locs hI ih10 => ?_) (0 : Int64) (0 : Int64) (0 : Int64) (0 : Int32) ls _ _ ⟨hP, hD, hS, lv_sub hl [4, 3, 2, 1, 0] rfl, (show 0 ≤ (0 : Int32).toInt ∧ (0 : Int32).toInt ≤ nt from by omega), (show (0 : Int64).toInt = sI (0 : Int32).toInt.toNat from rfl), (show (0 : Int64).toInt = sT kp (0 : Int32).toInt.toNat from rfl), (show (0 : Int64).toInt = sP kp (0 : Int32).toInt.toNat from rfl)⟩
  obtain ⟨hP, hD, hS, hl, i1, i2, i3, i4⟩ := hI
  have b1 := sI_b x7.toInt.toNat (by omega)
  have b2 := sT_b (f := kp) x7.toInt.toNat (fun k hk => hrg k (by omega))
  have b3 := sP_b (f := kp) x7.toInt.toNat (by omega) (fun k hk => hrg k (by omega))
  refine lv_iload hx hb dX2_above_10 (lv_at hl 4 rfl) ?_
  refine lv_aload_n hx hb dX2_above_12 rfl (lv_at hl 0 rfl) ?_
  refine va_get (D := G) (ci := 2) (v := .int zt) (C := RX2) (T := TX2) (N := 2) hx hb hts hiX2 hown hK hP 0 rfl rfl 1 (by decide) hf15 (fun _ h9 => h9) rfl dX2_above_13 ?_
  refine lv_icmp_ge (tgt := 57) hx hb dX2_above_16 (by decide) (fun c16 => ?_) (fun c16 => ?_)
  · have k16 : (zt.toInt : Int) ≤ x7.toInt := i_le rfl rfl c16
    refine lv_aload_n hx hb dX2_above_57 rfl (lv_at hl 0 rfl) ?_
    refine va_get (D := G) (ci := 2) (v := .int zt) (C := RX2) (T := TX2) (N := 2) hx hb hts hiX2 hown hK hP 0 rfl rfl 1 (by decide) hf15 (fun _ h9 => h9) rfl dX2_above_58 ?_
    refine lv_i2l hx hb dX2_above_61 rfl ?_
    refine lv_topl (fun x61 ex61 => ?_)
    have tx61 : x61.toInt = zt.toInt := by rw [ex61]; exact tc_i2l rfl
    refine lv_lload hx hb dX2_above_62 (lv_at hl 3 rfl) ?_
    have b64 := mul_bnd (show 0 ≤ zt.toInt ∧ zt.toInt ≤ 40 by omega) (show 0 ≤ x5.toInt ∧ x5.toInt ≤ 1600000000000000 by omega)
    refine lv_lmul hx hb dX2_above_64 ?_
    refine lv_topl (fun x64 ex64 => ?_)
    have tx64 : x64.toInt = zt.toInt * x5.toInt := by rw [ex64]; exact tl_mul tx61 rfl (by omega) (by omega)
    refine lv_lload_n hx hb dX2_above_65 rfl (lv_at hl 1 rfl) ?_
    refine lv_lload_n hx hb dX2_above_66 rfl (lv_at hl 2 rfl) ?_
    have b67 := mul_bnd (show 0 ≤ x1.toInt ∧ x1.toInt ≤ 1600 by omega) (show 0 ≤ x3.toInt ∧ x3.toInt ≤ 40000000000000 by omega)
    refine lv_lmul hx hb dX2_above_67 ?_
    refine lv_topl (fun x67 ex67 => ?_)
    have tx67 : x67.toInt = x1.toInt * x3.toInt := by rw [ex67]; exact tl_mul rfl rfl (by omega) (by omega)
    refine lv_lsub hx hb dX2_above_68 ?_
    refine lv_topl (fun x68 ex68 => ?_)
    have tx68 : x68.toInt = x64.toInt - x67.toInt := by rw [ex68]; exact tl_sub rfl rfl (by omega) (by omega)
    exact W.lret (v := x68) hx hb hr (fun t ht hW => ⟨⟨x68, (), rfl, (by (try dsimp only); exact (by rw [show x7.toInt.toNat = nt by omega] at i2 i3 i4; rw [← i2, ← i3, ← i4, ← hnt]; omega)), by rw [ht]; exact hP, hD⟩, hS.F ht⟩) hS.2.2 dX2_above_69
  · have k16 : (x7.toInt : Int) < zt.toInt := i_nle rfl rfl c16
    refine lv_lload_n hx hb dX2_above_19 rfl (lv_at hl 1 rfl) ?_
    refine lv_iload hx hb dX2_above_20 (lv_at hl 4 rfl) ?_
    refine lv_i2l hx hb dX2_above_22 rfl ?_
    refine lv_topl (fun x22 ex22 => ?_)
    have tx22 : x22.toInt = x7.toInt := by rw [ex22]; exact tc_i2l rfl
    refine lv_ladd hx hb dX2_above_23 ?_
    refine lv_topl (fun x23 ex23 => ?_)
    have tx23 : x23.toInt = x1.toInt + x7.toInt := by rw [ex23]; exact tl_add rfl tx22 (by omega) (by omega)
    refine lv_lstore_n (lv' := [(1, .long x23), (0, .ref qt), (3, .long x3), (5, .long x5), (7, .int x7)]) hx hb dX2_above_24 rfl hl (by decide) rfl (fun ls hl => ?_)
    refine lv_lload_n hx hb dX2_above_25 rfl (lv_at hl 2 rfl) ?_
    refine lv_aload_n hx hb dX2_above_26 rfl (lv_at hl 1 rfl) ?_
    refine va_get (D := G) (ci := 2) (v := .ref qt1) (C := RX2) (T := TX2) (N := 2) hx hb hts hiX2 hown hK hP 0 rfl rfl 0 (by decide) hf9 (fun _ h9 => h9) rfl dX2_above_27 ?_
    refine lv_iload hx hb dX2_above_30 (lv_at hl 4 rfl) ?_
    refine va_lald hx hb hK hP 1 1 rfl rfl (vi_in rfl (by omega) (by omega)) dX2_above_32 ?_
    refine lv_topl (fun x32 ex32 => ?_)
    have ex32 : x32 = kp x7.toInt.toNat := by rw [ex32]; exact congrArg _ (cl_nat rfl (by omega))
    have tx32 : x32.toInt = (kp x7.toInt.toNat).toInt := by rw [ex32]
    have hrg_x32 := hrg x7.toInt.toNat (by omega)
    refine lv_ladd hx hb dX2_above_33 ?_
    refine lv_topl (fun x33 ex33 => ?_)
    have tx33 : x33.toInt = x3.toInt + x32.toInt := by rw [ex33]; exact tl_add rfl rfl (by omega) (by omega)
    refine lv_lstore_n (lv' := [(3, .long x33), (1, .long x23), (0, .ref qt), (5, .long x5), (7, .int x7)]) hx hb dX2_above_34 rfl hl (by decide) rfl (fun ls hl => ?_)
    refine lv_lload hx hb dX2_above_35 (lv_at hl 3 rfl) ?_
    refine lv_aload_n hx hb dX2_above_37 rfl (lv_at hl 2 rfl) ?_
    refine va_get (D := G) (ci := 2) (v := .ref qt1) (C := RX2) (T := TX2) (N := 2) hx hb hts hiX2 hown hK hP 0 rfl rfl 0 (by decide) hf9 (fun _ h9 => h9) rfl dX2_above_38 ?_
    refine lv_iload hx hb dX2_above_41 (lv_at hl 4 rfl) ?_
    refine va_lald hx hb hK hP 1 1 rfl rfl (vi_in rfl (by omega) (by omega)) dX2_above_43 ?_
    refine lv_topl (fun x43 ex43 => ?_)
    have ex43 : x43 = kp x7.toInt.toNat := by rw [ex43]; exact congrArg _ (cl_nat rfl (by omega))
    have tx43 : x43.toInt = (kp x7.toInt.toNat).toInt := by rw [ex43]
    have hrg_x43 := hrg x7.toInt.toNat (by omega)
    refine lv_iload hx hb dX2_above_44 (lv_at hl 4 rfl) ?_
    refine lv_i2l hx hb dX2_above_46 rfl ?_
    refine lv_topl (fun x46 ex46 => ?_)
    have tx46 : x46.toInt = x7.toInt := by rw [ex46]; exact tc_i2l rfl
    have b47 := mul_bnd (show 0 ≤ x43.toInt ∧ x43.toInt ≤ 1000000000000 by omega) (show 0 ≤ x7.toInt ∧ x7.toInt ≤ 40 by omega)
    refine lv_lmul hx hb dX2_above_47 ?_
    refine lv_topl (fun x47 ex47 => ?_)
    have tx47 : x47.toInt = x43.toInt * x7.toInt := by rw [ex47]; exact tl_mul rfl tx46 (by omega) (by omega)
    refine lv_ladd hx hb dX2_above_48 ?_
    refine lv_topl (fun x48 ex48 => ?_)
    have tx48 : x48.toInt = x5.toInt + x47.toInt := by rw [ex48]; exact tl_add rfl rfl (by omega) (by omega)
    refine lv_lstore (lv' := [(5, .long x48), (3, .long x33), (1, .long x23), (0, .ref qt), (7, .int x7)]) hx hb dX2_above_49  hl (by decide) rfl (fun ls hl => ?_)
    obtain ⟨x51, ex51⟩ : ∃ y : Int32, y = x7 + 1 := ⟨_, rfl⟩
    have tx51 : x51.toInt = x7.toInt + 1 := by rw [ex51]; exact ti_add rfl (by decide) (by omega) (by omega)
    refine lv_iinc (v := x51) (lv' := [(7, .int x51), (5, .long x48), (3, .long x33), (1, .long x23), (0, .ref qt)]) hx hb dX2_above_51 hl (k := 4) rfl (by rw [ex51]; rfl) (by decide) rfl (fun ls hl => ?_)
    refine lv_goto (tgt := 10) hx hb dX2_above_54 (by decide) ?_
    exact ih10 x23 x33 x48 x51 ls _ _ ⟨hP, hD, hS, lv_sub hl [4, 3, 2, 1, 0] rfl, (show 0 ≤ x51.toInt ∧ x51.toInt ≤ nt from by omega), (show x23.toInt = sI x51.toInt.toNat from by rw [show x51.toInt.toNat = x7.toInt.toNat + 1 by omega]; simp only [sI, sT, sP, sQ]; omega), (show x33.toInt = sT kp x51.toInt.toNat from by rw [show x51.toInt.toNat = x7.toInt.toNat + 1 by omega]; simp only [sI, sT, sP, sQ]; omega), (show x48.toInt = sP kp x51.toInt.toNat from by rw [show x51.toInt.toNat = x7.toInt.toNat + 1 by omega]; simp only [sP]; rw [show ((x7.toInt.toNat : Nat) : Int) = x7.toInt by omega, ← tx43]; omega)⟩ (show (nt - x51.toInt).toNat < (nt - x7.toInt).toNat from by omega)
set_option maxHeartbeats 1000000 in
set_option maxRecDepth 100000 in
theorem ct_X2_below (l : Launch) (G : va_G) (cI cL : ClassId) (sz : Nat) (qt : Nat) (qt1 : Nat) (zt : Int32) (kp : Nat → Int64) (nt : Nat) (hnt : zt.toInt = nt) (hOt : okT nt kp) : Met l yX2_below wsX2_below ({ frames := 0, cells := 0, slots := 0, locals := 0 }) (va_Pc [.ref qt] (pre0 G cI cL [(qt, .inr (2, [.ref qt1, .int zt])), (qt1, .inl (cL, 40, .inr (.inl kp)))] sz)) (va_Ql (fun (r : Int64) (u : Unit) => r.toInt = nt * sQ nt - sI nt * sI nt) (fun (u : Unit) t => va_P G vwCl [(qt, .inr (2, [.ref qt1, .int zt])), (qt1, .inl (cL, 40, .inr (.inl kp)))] t.heap ∧ va_D (va_A [(qt, .inr (2, [.ref qt1, .int zt])), (qt1, .inl (cL, 40, .inr (.inl kp)))] sz) [(qt, .inr (2, [.ref qt1, .int zt])), (qt1, .inl (cL, 40, .inr (.inl kp)))]) (va_A [(qt, .inr (2, [.ref qt1, .int zt])), (qt1, .inl (cL, 40, .inr (.inl kp)))] sz)) 0 0 (va_A [(qt, .inr (2, [.ref qt1, .int zt])), (qt1, .inl (cL, 40, .inr (.inl kp)))] sz) := by
  refine Met.ofW (cc := cX2_below) (maxL := 6) (ret := (some .long)) (by decide) rfl ?_
  intro p e s m args below meth c s₁ B hml hv
  obtain ⟨rfl, hsz, hP, hK, hD0, hN⟩ := hv
  have hx := B.exec
  have hb := B.bytes
  have hr := B.returns
  have hts := atoms_spec (ws := wsX2_below) B.pre
  have hown : s.vm.findClass RX2 = some m.cls := findClass_of_methodNamed B.named
  have hlocks := B.notSynchronized
  subst hsz
  have hD := hD0.self (sz := s.heap.size)
  generalize hAe : va_A [(qt, .inr (2, [.ref qt1, .int zt])), (qt1, .inl (cL, 40, .inr (.inl kp)))] s.heap.size = A at hD ⊢
  have hA : ∀ q : Nat, s.heap.size ≤ q → A q := fun q h => by rw [← hAe]; exact Or.inr h
  have hP : va_P G vwCl [(qt, .inr (2, [.ref qt1, .int zt])), (qt1, .inl (cL, 40, .inr (.inl kp)))] s.heap := hP
  have hl := lv_entry ([.ref qt]) (n := 6) (Nat.le_of_ble_eq_true rfl)
  rw [lg_entry_eq]
  generalize (lg_sl ([.ref qt]) ++ List.replicate (6 - (lg_sl ([.ref qt])).length) Slot.unset).toArray = ls at hl ⊢
  have hl : lv_has ls 6 [(0, .ref qt)] := hl
  have hf15 := hts (.fieldLink RX2 15 "TempoMaps$Taps" "size" "I") (by decide +kernel)
  have hiX2 : ∀ w ∈ wsX20, w ∈ wsX2_below := by decide +kernel
  have zi0 : ((0 : Int32)).toInt = 0 := by decide
  have zi1 : ((1 : Int32)).toInt = 1 := by decide
  have zl0 : ((0 : Int64)).toInt = 0 := by decide
  refine w_h (A := A) hP (fun H locs hP hS => ?_)
  have hn40 := hOt.1
  have hrg := hOt.2.1
  refine lv_lconst (v := 0) hx hb dX2_below_0 (by decide) ?_
  refine lv_lstore_n (lv' := [(1, .long 0), (0, .ref qt)]) hx hb dX2_below_1 rfl hl (by decide) rfl (fun ls hl => ?_)
  refine lv_lconst (v := 0) hx hb dX2_below_2 (by decide) ?_
  refine lv_lstore_n (lv' := [(3, .long 0), (1, .long 0), (0, .ref qt)]) hx hb dX2_below_3 rfl hl (by decide) rfl (fun ls hl => ?_)
  refine lv_iconst (v := 0) hx hb dX2_below_4 (by decide) ?_
  refine lv_istore (lv' := [(5, .int 0), (3, .long 0), (1, .long 0), (0, .ref qt)]) hx hb dX2_below_5  hl (by decide) rfl (fun ls hl => ?_)
  refine W_loop3 (fun (x1 : Int64) (x3 : Int64) (x5 : Int32) ls H locs => va_P G vwCl [(qt, .inr (2, [.ref qt1, .int zt])), (qt1, .inl (cL, 40, .inr (.inl kp)))] H ∧ va_D A [(qt, .inr (2, [.ref qt1, .int zt])), (qt1, .inl (cL, 40, .inr (.inl kp)))] ∧ va_S A s.heap H locs ∧ lv_has ls 6 [(0, .ref qt), (1, .long x1), (3, .long x3), (5, .int x5)] ∧ (0 ≤ x5.toInt ∧ x5.toInt ≤ nt) ∧ (x1.toInt = sI x5.toInt.toNat) ∧ (x3.toInt = sQ x5.toInt.toNat)) (fun (x1 : Int64) (x3 : Int64) (x5 : Int32) => (nt - x5.toInt).toNat) (fun x1 x3 x5 ls H locs hI ih7 => ?_) (0 : Int64) (0 : Int64) (0 : Int32) ls _ _ ⟨hP, hD, hS, lv_sub hl [3, 2, 1, 0] rfl, (show 0 ≤ (0 : Int32).toInt ∧ (0 : Int32).toInt ≤ nt from by omega), (show (0 : Int64).toInt = sI (0 : Int32).toInt.toNat from rfl), (show (0 : Int64).toInt = sQ (0 : Int32).toInt.toNat from rfl)⟩
  obtain ⟨hP, hD, hS, hl, i1, i2, i4⟩ := hI
  have b1 := sI_b x5.toInt.toNat (by omega)
  have b3 := sQ_b x5.toInt.toNat (by omega)
  refine lv_iload hx hb dX2_below_7 (lv_at hl 3 rfl) ?_
  refine lv_aload_n hx hb dX2_below_9 rfl (lv_at hl 0 rfl) ?_
  refine va_get (D := G) (ci := 2) (v := .int zt) (C := RX2) (T := TX2) (N := 2) hx hb hts hiX2 hown hK hP 0 rfl rfl 1 (by decide) hf15 (fun _ h9 => h9) rfl dX2_below_10 ?_
  refine lv_icmp_ge (tgt := 38) hx hb dX2_below_13 (by decide) (fun c13 => ?_) (fun c13 => ?_)
  · have k13 : (zt.toInt : Int) ≤ x5.toInt := i_le rfl rfl c13
    refine lv_aload_n hx hb dX2_below_38 rfl (lv_at hl 0 rfl) ?_
    refine va_get (D := G) (ci := 2) (v := .int zt) (C := RX2) (T := TX2) (N := 2) hx hb hts hiX2 hown hK hP 0 rfl rfl 1 (by decide) hf15 (fun _ h9 => h9) rfl dX2_below_39 ?_
    refine lv_i2l hx hb dX2_below_42 rfl ?_
    refine lv_topl (fun x42 ex42 => ?_)
    have tx42 : x42.toInt = zt.toInt := by rw [ex42]; exact tc_i2l rfl
    refine lv_lload_n hx hb dX2_below_43 rfl (lv_at hl 2 rfl) ?_
    have b44 := mul_bnd (show 0 ≤ zt.toInt ∧ zt.toInt ≤ 40 by omega) (show 0 ≤ x3.toInt ∧ x3.toInt ≤ 64000 by omega)
    refine lv_lmul hx hb dX2_below_44 ?_
    refine lv_topl (fun x44 ex44 => ?_)
    have tx44 : x44.toInt = zt.toInt * x3.toInt := by rw [ex44]; exact tl_mul tx42 rfl (by omega) (by omega)
    refine lv_lload_n hx hb dX2_below_45 rfl (lv_at hl 1 rfl) ?_
    refine lv_lload_n hx hb dX2_below_46 rfl (lv_at hl 1 rfl) ?_
    have b47 := mul_bnd (show 0 ≤ x1.toInt ∧ x1.toInt ≤ 1600 by omega) (show 0 ≤ x1.toInt ∧ x1.toInt ≤ 1600 by omega)
    refine lv_lmul hx hb dX2_below_47 ?_
    refine lv_topl (fun x47 ex47 => ?_)
    have tx47 : x47.toInt = x1.toInt * x1.toInt := by rw [ex47]; exact tl_mul rfl rfl (by omega) (by omega)
    refine lv_lsub hx hb dX2_below_48 ?_
    refine lv_topl (fun x48 ex48 => ?_)
    have tx48 : x48.toInt = x44.toInt - x47.toInt := by rw [ex48]; exact tl_sub rfl rfl (by omega) (by omega)
    exact W.lret (v := x48) hx hb hr (fun t ht hW => ⟨⟨x48, (), rfl, (by (try dsimp only); exact (by rw [show x5.toInt.toNat = nt by omega] at i2 i4; rw [← i2, ← i4, ← hnt]; omega)), by rw [ht]; exact hP, hD⟩, hS.F ht⟩) hS.2.2 dX2_below_49
  · have k13 : (x5.toInt : Int) < zt.toInt := i_nle rfl rfl c13
    refine lv_lload_n hx hb dX2_below_16 rfl (lv_at hl 1 rfl) ?_
    refine lv_iload hx hb dX2_below_17 (lv_at hl 3 rfl) ?_
    refine lv_i2l hx hb dX2_below_19 rfl ?_
    refine lv_topl (fun x19 ex19 => ?_)
    have tx19 : x19.toInt = x5.toInt := by rw [ex19]; exact tc_i2l rfl
    refine lv_ladd hx hb dX2_below_20 ?_
    refine lv_topl (fun x20 ex20 => ?_)
    have tx20 : x20.toInt = x1.toInt + x5.toInt := by rw [ex20]; exact tl_add rfl tx19 (by omega) (by omega)
    refine lv_lstore_n (lv' := [(1, .long x20), (0, .ref qt), (3, .long x3), (5, .int x5)]) hx hb dX2_below_21 rfl hl (by decide) rfl (fun ls hl => ?_)
    refine lv_lload_n hx hb dX2_below_22 rfl (lv_at hl 2 rfl) ?_
    refine lv_iload hx hb dX2_below_23 (lv_at hl 3 rfl) ?_
    refine lv_i2l hx hb dX2_below_25 rfl ?_
    refine lv_topl (fun x25 ex25 => ?_)
    have tx25 : x25.toInt = x5.toInt := by rw [ex25]; exact tc_i2l rfl
    refine lv_iload hx hb dX2_below_26 (lv_at hl 3 rfl) ?_
    refine lv_i2l hx hb dX2_below_28 rfl ?_
    refine lv_topl (fun x28 ex28 => ?_)
    have tx28 : x28.toInt = x5.toInt := by rw [ex28]; exact tc_i2l rfl
    have b29 := mul_bnd (show 0 ≤ x5.toInt ∧ x5.toInt ≤ 40 by omega) (show 0 ≤ x5.toInt ∧ x5.toInt ≤ 40 by omega)
    refine lv_lmul hx hb dX2_below_29 ?_
    refine lv_topl (fun x29 ex29 => ?_)
    have tx29 : x29.toInt = x5.toInt * x5.toInt := by rw [ex29]; exact tl_mul tx25 tx28 (by omega) (by omega)
    refine lv_ladd hx hb dX2_below_30 ?_
    refine lv_topl (fun x30 ex30 => ?_)
    have tx30 : x30.toInt = x3.toInt + x29.toInt := by rw [ex30]; exact tl_add rfl rfl (by omega) (by omega)
    refine lv_lstore_n (lv' := [(3, .long x30), (1, .long x20), (0, .ref qt), (5, .int x5)]) hx hb dX2_below_31 rfl hl (by decide) rfl (fun ls hl => ?_)
    obtain ⟨x32, ex32⟩ : ∃ y : Int32, y = x5 + 1 := ⟨_, rfl⟩
    have tx32 : x32.toInt = x5.toInt + 1 := by rw [ex32]; exact ti_add rfl (by decide) (by omega) (by omega)
    refine lv_iinc (v := x32) (lv' := [(5, .int x32), (3, .long x30), (1, .long x20), (0, .ref qt)]) hx hb dX2_below_32 hl (k := 3) rfl (by rw [ex32]; rfl) (by decide) rfl (fun ls hl => ?_)
    refine lv_goto (tgt := 7) hx hb dX2_below_35 (by decide) ?_
    exact ih7 x20 x30 x32 ls _ _ ⟨hP, hD, hS, lv_sub hl [3, 2, 1, 0] rfl, (show 0 ≤ x32.toInt ∧ x32.toInt ≤ nt from by omega), (show x20.toInt = sI x32.toInt.toNat from by rw [show x32.toInt.toNat = x5.toInt.toNat + 1 by omega]; simp only [sI, sT, sP, sQ]; omega), (show x30.toInt = sQ x32.toInt.toNat from by rw [show x32.toInt.toNat = x5.toInt.toNat + 1 by omega]; simp only [sQ]; rw [show ((x5.toInt.toNat : Nat) : Int) = x5.toInt by omega]; omega)⟩ (show (nt - x32.toInt).toNat < (nt - x5.toInt).toNat from by omega)

set_option maxHeartbeats 1000000 in
set_option maxRecDepth 100000 in
theorem ct_X1_init (l : Launch) (G : va_G) (cI cL : ClassId) (sz : Nat) (qm : Nat) : Met l yX1_init wsX1_init ({ frames := 1, cells := 5, slots := 200, locals := 20 }) (va_Pc [.ref qm] (pre0 G cI cL [(qm, .inr (1, [.null, .null, .null, .null, .null, .int 0]))] sz)) (va_Qv (fun (u : Nat × Nat × Nat × Nat × Nat) => True) (fun (u : Nat × Nat × Nat × Nat × Nat) t => va_P G vwCl [(qm, .inr (1, [.ref u.1, .ref u.2.1, .ref u.2.2.1, .ref u.2.2.2.1, .ref u.2.2.2.2, .int 0])), (u.1, .inl (cI, 40, .inl (fun _ => 0))), (u.2.1, .inl (cI, 40, .inl (fun _ => 0))), (u.2.2.1, .inl (cI, 40, .inl (fun _ => 0))), (u.2.2.2.1, .inl (cI, 40, .inl (fun _ => 0))), (u.2.2.2.2, .inl (cL, 40, .inr (.inl (fun _ => 0))))] t.heap ∧ va_D (va_A [(qm, .inr (1, [.null, .null, .null, .null, .null, .int 0]))] sz) [(qm, .inr (1, [.ref u.1, .ref u.2.1, .ref u.2.2.1, .ref u.2.2.2.1, .ref u.2.2.2.2, .int 0])), (u.1, .inl (cI, 40, .inl (fun _ => 0))), (u.2.1, .inl (cI, 40, .inl (fun _ => 0))), (u.2.2.1, .inl (cI, 40, .inl (fun _ => 0))), (u.2.2.2.1, .inl (cI, 40, .inl (fun _ => 0))), (u.2.2.2.2, .inl (cL, 40, .inr (.inl (fun _ => 0))))]) (va_A [(qm, .inr (1, [.null, .null, .null, .null, .null, .int 0]))] sz)) 5 200 (va_A [(qm, .inr (1, [.null, .null, .null, .null, .null, .int 0]))] sz) := by
  refine Met.ofW (cc := cX1_init) (maxL := 1) (ret := none) (by decide) rfl ?_
  intro p e s m args below meth c s₁ B hml hv
  obtain ⟨rfl, hsz, hP, hK, hD0, hN⟩ := hv
  have hx := B.exec
  have hb := B.bytes
  have hr := B.returns
  have hts := atoms_spec (ws := wsX1_init) B.pre
  have hown : s.vm.findClass RX1 = some m.cls := findClass_of_methodNamed B.named
  have hlocks := B.notSynchronized
  subst hsz
  have hin : meth.name = "<init>" := (name_of_methodNamed B.named B.method).1
  have hD := hD0.self (sz := s.heap.size)
  generalize hAe : va_A [(qm, .inr (1, [.null, .null, .null, .null, .null, .int 0]))] s.heap.size = A at hD ⊢
  have hA : ∀ q : Nat, s.heap.size ≤ q → A q := fun q h => by rw [← hAe]; exact Or.inr h
  have hP : va_P G vwCl [(qm, .inr (1, [.null, .null, .null, .null, .null, .int 0]))] s.heap := hP
  have hl := lv_entry ([.ref qm]) (n := 1) (Nat.le_of_ble_eq_true rfl)
  rw [lg_entry_eq]
  generalize (lg_sl ([.ref qm]) ++ List.replicate (1 - (lg_sl ([.ref qm])).length) Slot.unset).toArray = ls at hl ⊢
  have hl : lv_has ls 1 [(0, .ref qm)] := hl
  have hf9 := hts (.fieldLink RX1 9 "TempoMaps$Marks" "ticks" "[I") (by decide +kernel)
  have hf15 := hts (.fieldLink RX1 15 "TempoMaps$Marks" "spans" "[I") (by decide +kernel)
  have hf18 := hts (.fieldLink RX1 18 "TempoMaps$Marks" "firstPaces" "[I") (by decide +kernel)
  have hf21 := hts (.fieldLink RX1 21 "TempoMaps$Marks" "lastPaces" "[I") (by decide +kernel)
  have hf24 := hts (.fieldLink RX1 24 "TempoMaps$Marks" "unitsBefore" "[J") (by decide +kernel)
  have hiX1 : ∀ w ∈ wsX10, w ∈ wsX1_init := by decide +kernel
  have zi40 : ((40 : Int32)).toInt = 40 := by decide
  refine w_h (A := A) hP (fun H locs hP hS => ?_)
  refine lv_aload_n hx hb dX1_init_0 rfl (lv_at hl 0 rfl) ?_
  refine W.objInit hx hb hown (hts (.methodLink RX1 3 objectInit) (by decide +kernel)) (hts (.instanceMethod objectInit) (by decide +kernel)) (hts (.code objectInit ⟨#[0xb1]⟩ 1 none) (by decide +kernel)) rfl (by rw [hml]; exact hl.1) rfl dX1_init_1 (Nat.le_of_ble_eq_true rfl) (Nat.le_of_ble_eq_true rfl) ?_
  refine W.eq (g2 := F0 m 4 ls []) rfl ?_
  refine lv_aload_n hx hb dX1_init_4 rfl (lv_at hl 0 rfl) ?_
  refine lv_bipush (v := 40) hx hb dX1_init_5 (by decide) ?_
  refine na_i (N' := 40) hx hb (hts (.arrayClass .int) (by decide +kernel)) hK hP hD hS hA (by decide) (by decide) (by decide) (Nat.le_of_ble_eq_true rfl) (Nat.le_of_ble_eq_true rfl) dX1_init_7 (fun q7 H hP hD hS => ?_)
  have hP : va_P G vwCl [(qm, .inr (1, [.null, .null, .null, .null, .null, .int 0])), (q7, .inl (cI, 40, .inl (fun _ => 0)))] H := hP
  have hD : va_D A [(qm, .inr (1, [.null, .null, .null, .null, .null, .int 0])), (q7, .inl (cI, 40, .inl (fun _ => 0)))] := hD
  refine W.widen (k := 1) (n := 40) (by decide) (by decide) ?_
  refine va_putF (D := G) (ci := 1) (v := .ref q7) (ty := .array .int) (C := RX1) (T := TX1) (N := 6) hx hb hts hiX1 tyX1 tyX1_ok nmX1 hown hK hP hD hS 0 rfl rfl 0 (by decide) hf9 (fun _ h9 => h9) rfl hin rfl (by decide +kernel) rfl rfl (Nat.le_of_ble_eq_true rfl) dX1_init_9 (fun H locs hP hD hS => ?_)
  have hP : va_P G vwCl [(qm, .inr (1, [.ref q7, .null, .null, .null, .null, .int 0])), (q7, .inl (cI, 40, .inl (fun _ => 0)))] H := hP
  have hD : va_D A [(qm, .inr (1, [.ref q7, .null, .null, .null, .null, .int 0])), (q7, .inl (cI, 40, .inl (fun _ => 0)))] := hD
  refine lv_aload_n hx hb dX1_init_12 rfl (lv_at hl 0 rfl) ?_
  refine lv_bipush (v := 40) hx hb dX1_init_13 (by decide) ?_
  refine na_i (N' := 40) hx hb (hts (.arrayClass .int) (by decide +kernel)) hK hP hD hS hA (by decide) (by decide) (by decide) (Nat.le_of_ble_eq_true rfl) (Nat.le_of_ble_eq_true rfl) dX1_init_15 (fun q15 H hP hD hS => ?_)
  have hP : va_P G vwCl [(qm, .inr (1, [.ref q7, .null, .null, .null, .null, .int 0])), (q7, .inl (cI, 40, .inl (fun _ => 0))), (q15, .inl (cI, 40, .inl (fun _ => 0)))] H := hP
  have hD : va_D A [(qm, .inr (1, [.ref q7, .null, .null, .null, .null, .int 0])), (q7, .inl (cI, 40, .inl (fun _ => 0))), (q15, .inl (cI, 40, .inl (fun _ => 0)))] := hD
  refine W.widen (k := 2) (n := 80) (by decide) (by decide) ?_
  refine va_putF (D := G) (ci := 1) (v := .ref q15) (ty := .array .int) (C := RX1) (T := TX1) (N := 6) hx hb hts hiX1 tyX1 tyX1_ok nmX1 hown hK hP hD hS 0 rfl rfl 1 (by decide) hf15 (fun _ h9 => h9) rfl hin rfl (by decide +kernel) rfl rfl (Nat.le_of_ble_eq_true rfl) dX1_init_17 (fun H locs hP hD hS => ?_)
  have hP : va_P G vwCl [(qm, .inr (1, [.ref q7, .ref q15, .null, .null, .null, .int 0])), (q7, .inl (cI, 40, .inl (fun _ => 0))), (q15, .inl (cI, 40, .inl (fun _ => 0)))] H := hP
  have hD : va_D A [(qm, .inr (1, [.ref q7, .ref q15, .null, .null, .null, .int 0])), (q7, .inl (cI, 40, .inl (fun _ => 0))), (q15, .inl (cI, 40, .inl (fun _ => 0)))] := hD
  refine lv_aload_n hx hb dX1_init_20 rfl (lv_at hl 0 rfl) ?_
  refine lv_bipush (v := 40) hx hb dX1_init_21 (by decide) ?_
  refine na_i (N' := 40) hx hb (hts (.arrayClass .int) (by decide +kernel)) hK hP hD hS hA (by decide) (by decide) (by decide) (Nat.le_of_ble_eq_true rfl) (Nat.le_of_ble_eq_true rfl) dX1_init_23 (fun q23 H hP hD hS => ?_)
  have hP : va_P G vwCl [(qm, .inr (1, [.ref q7, .ref q15, .null, .null, .null, .int 0])), (q7, .inl (cI, 40, .inl (fun _ => 0))), (q15, .inl (cI, 40, .inl (fun _ => 0))), (q23, .inl (cI, 40, .inl (fun _ => 0)))] H := hP
  have hD : va_D A [(qm, .inr (1, [.ref q7, .ref q15, .null, .null, .null, .int 0])), (q7, .inl (cI, 40, .inl (fun _ => 0))), (q15, .inl (cI, 40, .inl (fun _ => 0))), (q23, .inl (cI, 40, .inl (fun _ => 0)))] := hD
  refine W.widen (k := 3) (n := 120) (by decide) (by decide) ?_
  refine va_putF (D := G) (ci := 1) (v := .ref q23) (ty := .array .int) (C := RX1) (T := TX1) (N := 6) hx hb hts hiX1 tyX1 tyX1_ok nmX1 hown hK hP hD hS 0 rfl rfl 2 (by decide) hf18 (fun _ h9 => h9) rfl hin rfl (by decide +kernel) rfl rfl (Nat.le_of_ble_eq_true rfl) dX1_init_25 (fun H locs hP hD hS => ?_)
  have hP : va_P G vwCl [(qm, .inr (1, [.ref q7, .ref q15, .ref q23, .null, .null, .int 0])), (q7, .inl (cI, 40, .inl (fun _ => 0))), (q15, .inl (cI, 40, .inl (fun _ => 0))), (q23, .inl (cI, 40, .inl (fun _ => 0)))] H := hP
  have hD : va_D A [(qm, .inr (1, [.ref q7, .ref q15, .ref q23, .null, .null, .int 0])), (q7, .inl (cI, 40, .inl (fun _ => 0))), (q15, .inl (cI, 40, .inl (fun _ => 0))), (q23, .inl (cI, 40, .inl (fun _ => 0)))] := hD
  refine lv_aload_n hx hb dX1_init_28 rfl (lv_at hl 0 rfl) ?_
  refine lv_bipush (v := 40) hx hb dX1_init_29 (by decide) ?_
  refine na_i (N' := 40) hx hb (hts (.arrayClass .int) (by decide +kernel)) hK hP hD hS hA (by decide) (by decide) (by decide) (Nat.le_of_ble_eq_true rfl) (Nat.le_of_ble_eq_true rfl) dX1_init_31 (fun q31 H hP hD hS => ?_)
  have hP : va_P G vwCl [(qm, .inr (1, [.ref q7, .ref q15, .ref q23, .null, .null, .int 0])), (q7, .inl (cI, 40, .inl (fun _ => 0))), (q15, .inl (cI, 40, .inl (fun _ => 0))), (q23, .inl (cI, 40, .inl (fun _ => 0))), (q31, .inl (cI, 40, .inl (fun _ => 0)))] H := hP
  have hD : va_D A [(qm, .inr (1, [.ref q7, .ref q15, .ref q23, .null, .null, .int 0])), (q7, .inl (cI, 40, .inl (fun _ => 0))), (q15, .inl (cI, 40, .inl (fun _ => 0))), (q23, .inl (cI, 40, .inl (fun _ => 0))), (q31, .inl (cI, 40, .inl (fun _ => 0)))] := hD
  refine W.widen (k := 4) (n := 160) (by decide) (by decide) ?_
  refine va_putF (D := G) (ci := 1) (v := .ref q31) (ty := .array .int) (C := RX1) (T := TX1) (N := 6) hx hb hts hiX1 tyX1 tyX1_ok nmX1 hown hK hP hD hS 0 rfl rfl 3 (by decide) hf21 (fun _ h9 => h9) rfl hin rfl (by decide +kernel) rfl rfl (Nat.le_of_ble_eq_true rfl) dX1_init_33 (fun H locs hP hD hS => ?_)
  have hP : va_P G vwCl [(qm, .inr (1, [.ref q7, .ref q15, .ref q23, .ref q31, .null, .int 0])), (q7, .inl (cI, 40, .inl (fun _ => 0))), (q15, .inl (cI, 40, .inl (fun _ => 0))), (q23, .inl (cI, 40, .inl (fun _ => 0))), (q31, .inl (cI, 40, .inl (fun _ => 0)))] H := hP
  have hD : va_D A [(qm, .inr (1, [.ref q7, .ref q15, .ref q23, .ref q31, .null, .int 0])), (q7, .inl (cI, 40, .inl (fun _ => 0))), (q15, .inl (cI, 40, .inl (fun _ => 0))), (q23, .inl (cI, 40, .inl (fun _ => 0))), (q31, .inl (cI, 40, .inl (fun _ => 0)))] := hD
  refine lv_aload_n hx hb dX1_init_36 rfl (lv_at hl 0 rfl) ?_
  refine lv_bipush (v := 40) hx hb dX1_init_37 (by decide) ?_
  refine na_l (N' := 40) hx hb (hts (.arrayClass .long) (by decide +kernel)) hK hP hD hS hA (by decide) (by decide) (by decide) (Nat.le_of_ble_eq_true rfl) (Nat.le_of_ble_eq_true rfl) dX1_init_39 (fun q39 H hP hD hS => ?_)
  have hP : va_P G vwCl [(qm, .inr (1, [.ref q7, .ref q15, .ref q23, .ref q31, .null, .int 0])), (q7, .inl (cI, 40, .inl (fun _ => 0))), (q15, .inl (cI, 40, .inl (fun _ => 0))), (q23, .inl (cI, 40, .inl (fun _ => 0))), (q31, .inl (cI, 40, .inl (fun _ => 0))), (q39, .inl (cL, 40, .inr (.inl (fun _ => 0))))] H := hP
  have hD : va_D A [(qm, .inr (1, [.ref q7, .ref q15, .ref q23, .ref q31, .null, .int 0])), (q7, .inl (cI, 40, .inl (fun _ => 0))), (q15, .inl (cI, 40, .inl (fun _ => 0))), (q23, .inl (cI, 40, .inl (fun _ => 0))), (q31, .inl (cI, 40, .inl (fun _ => 0))), (q39, .inl (cL, 40, .inr (.inl (fun _ => 0))))] := hD
  refine W.widen (k := 5) (n := 200) (by decide) (by decide) ?_
  refine va_putF (D := G) (ci := 1) (v := .ref q39) (ty := .array .long) (C := RX1) (T := TX1) (N := 6) hx hb hts hiX1 tyX1 tyX1_ok nmX1 hown hK hP hD hS 0 rfl rfl 4 (by decide) hf24 (fun _ h9 => h9) rfl hin rfl (by decide +kernel) rfl rfl (Nat.le_of_ble_eq_true rfl) dX1_init_41 (fun H locs hP hD hS => ?_)
  have hP : va_P G vwCl [(qm, .inr (1, [.ref q7, .ref q15, .ref q23, .ref q31, .ref q39, .int 0])), (q7, .inl (cI, 40, .inl (fun _ => 0))), (q15, .inl (cI, 40, .inl (fun _ => 0))), (q23, .inl (cI, 40, .inl (fun _ => 0))), (q31, .inl (cI, 40, .inl (fun _ => 0))), (q39, .inl (cL, 40, .inr (.inl (fun _ => 0))))] H := hP
  have hD : va_D A [(qm, .inr (1, [.ref q7, .ref q15, .ref q23, .ref q31, .ref q39, .int 0])), (q7, .inl (cI, 40, .inl (fun _ => 0))), (q15, .inl (cI, 40, .inl (fun _ => 0))), (q23, .inl (cI, 40, .inl (fun _ => 0))), (q31, .inl (cI, 40, .inl (fun _ => 0))), (q39, .inl (cL, 40, .inr (.inl (fun _ => 0))))] := hD
  refine W.widen (k := 5) (n := 200) (by decide) (by decide) ?_
  exact W.vret hx hb hr (fun t ht hW => ⟨⟨(q7, q15, q23, q31, q39), rfl, trivial, by rw [ht]; exact hP, hD⟩, hS.F ht⟩) hS.2.2 dX1_init_44

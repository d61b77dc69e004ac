set_option maxHeartbeats 1000000 in
set_option maxRecDepth 100000 in
theorem ct_X0_init (l : Launch) (G : va_G) (cI cL : ClassId) (sz : Nat) (qh : Nat) : Met l yX0_init wsX0_init ({ frames := 1, cells := 2, slots := 40, locals := 20 }) (va_Pc [.ref qh] (pre0 G cI cL [(qh, .inr (0, [.null, .null, .int 0]))] sz)) (va_Qv (fun (u : Nat × Nat) => True) (fun (u : Nat × Nat) t => va_P G vwCl [(qh, .inr (0, [.ref u.1, .ref u.2, .int 0])), (u.1, .inl (cI, 20, .inl (fun _ => 0))), (u.2, .inl (cI, 20, .inl (fun _ => 0)))] t.heap ∧ va_D (va_A [(qh, .inr (0, [.null, .null, .int 0]))] sz) [(qh, .inr (0, [.ref u.1, .ref u.2, .int 0])), (u.1, .inl (cI, 20, .inl (fun _ => 0))), (u.2, .inl (cI, 20, .inl (fun _ => 0)))]) (va_A [(qh, .inr (0, [.null, .null, .int 0]))] sz)) 2 40 (va_A [(qh, .inr (0, [.null, .null, .int 0]))] sz) := by
  refine Met.ofW (cc := cX0_init) (maxL := 1) (ret := none) (by decide) rfl ?_
  intro p e s m args below meth c s₁ B hml hv
  obtain ⟨rfl, hsz, hP, hK, hD0, hN⟩ := hv
  have hx := B.exec
  have hb := B.bytes
  have hr := B.returns
  have hts := atoms_spec (ws := wsX0_init) B.pre
  have hown : s.vm.findClass RX0 = some m.cls := findClass_of_methodNamed B.named
  have hlocks := B.notSynchronized
  subst hsz
  have hin : meth.name = "<init>" := (name_of_methodNamed B.named B.method).1
  have hD := hD0.self (sz := s.heap.size)
  generalize hAe : va_A [(qh, .inr (0, [.null, .null, .int 0]))] s.heap.size = A at hD ⊢
  have hA : ∀ q : Nat, s.heap.size ≤ q → A q := fun q h => by rw [← hAe]; exact Or.inr h
  have hP : va_P G vwCl [(qh, .inr (0, [.null, .null, .int 0]))] s.heap := hP
  have hl := lv_entry ([.ref qh]) (n := 1) (Nat.le_of_ble_eq_true rfl)
  rw [lg_entry_eq]
  generalize (lg_sl ([.ref qh]) ++ List.replicate (1 - (lg_sl ([.ref qh])).length) Slot.unset).toArray = ls at hl ⊢
  have hl : lv_has ls 1 [(0, .ref qh)] := hl
  have hf9 := hts (.fieldLink RX0 9 "TempoMaps$Holds" "ticks" "[I") (by decide +kernel)
  have hf15 := hts (.fieldLink RX0 15 "TempoMaps$Holds" "units" "[I") (by decide +kernel)
  have hiX0 : ∀ w ∈ wsX00, w ∈ wsX0_init := by decide +kernel
  have zi20 : ((20 : Int32)).toInt = 20 := by decide
  refine w_h (A := A) hP (fun H locs hP hS => ?_)
  refine lv_aload_n hx hb dX0_init_0 rfl (lv_at hl 0 rfl) ?_
  refine W.objInit hx hb hown (hts (.methodLink RX0 3 objectInit) (by decide +kernel)) (hts (.instanceMethod objectInit) (by decide +kernel)) (hts (.code objectInit ⟨#[0xb1]⟩ 1 none) (by decide +kernel)) rfl (by rw [hml]; exact hl.1) rfl dX0_init_1 (Nat.le_of_ble_eq_true rfl) (Nat.le_of_ble_eq_true rfl) ?_
  refine W.eq (g2 := F0 m 4 ls []) rfl ?_
  refine lv_aload_n hx hb dX0_init_4 rfl (lv_at hl 0 rfl) ?_
  refine lv_bipush (v := 20) hx hb dX0_init_5 (by decide) ?_
  refine na_i (N' := 20) hx hb (hts (.arrayClass .int) (by decide +kernel)) hK hP hD hS hA (by decide) (by decide) (by decide) (Nat.le_of_ble_eq_true rfl) (Nat.le_of_ble_eq_true rfl) dX0_init_7 (fun q7 H hP hD hS => ?_)
  have hP : va_P G vwCl [(qh, .inr (0, [.null, .null, .int 0])), (q7, .inl (cI, 20, .inl (fun _ => 0)))] H := hP
  have hD : va_D A [(qh, .inr (0, [.null, .null, .int 0])), (q7, .inl (cI, 20, .inl (fun _ => 0)))] := hD
  refine W.widen (k := 1) (n := 20) (by decide) (by decide) ?_
  refine va_putF (D := G) (ci := 0) (v := .ref q7) (ty := .array .int) (C := RX0) (T := TX0) (N := 3) hx hb hts hiX0 tyX0 tyX0_ok nmX0 hown hK hP hD hS 0 rfl rfl 0 (by decide) hf9 (fun _ h9 => h9) rfl hin rfl (by decide +kernel) rfl rfl (Nat.le_of_ble_eq_true rfl) dX0_init_9 (fun H locs hP hD hS => ?_)
  have hP : va_P G vwCl [(qh, .inr (0, [.ref q7, .null, .int 0])), (q7, .inl (cI, 20, .inl (fun _ => 0)))] H := hP
  have hD : va_D A [(qh, .inr (0, [.ref q7, .null, .int 0])), (q7, .inl (cI, 20, .inl (fun _ => 0)))] := hD
  refine lv_aload_n hx hb dX0_init_12 rfl (lv_at hl 0 rfl) ?_
  refine lv_bipush (v := 20) hx hb dX0_init_13 (by decide) ?_
  refine na_i (N' := 20) hx hb (hts (.arrayClass .int) (by decide +kernel)) hK hP hD hS hA (by decide) (by decide) (by decide) (Nat.le_of_ble_eq_true rfl) (Nat.le_of_ble_eq_true rfl) dX0_init_15 (fun q15 H hP hD hS => ?_)
  have hP : va_P G vwCl [(qh, .inr (0, [.ref q7, .null, .int 0])), (q7, .inl (cI, 20, .inl (fun _ => 0))), (q15, .inl (cI, 20, .inl (fun _ => 0)))] H := hP
  have hD : va_D A [(qh, .inr (0, [.ref q7, .null, .int 0])), (q7, .inl (cI, 20, .inl (fun _ => 0))), (q15, .inl (cI, 20, .inl (fun _ => 0)))] := hD
  refine W.widen (k := 2) (n := 40) (by decide) (by decide) ?_
  refine va_putF (D := G) (ci := 0) (v := .ref q15) (ty := .array .int) (C := RX0) (T := TX0) (N := 3) hx hb hts hiX0 tyX0 tyX0_ok nmX0 hown hK hP hD hS 0 rfl rfl 1 (by decide) hf15 (fun _ h9 => h9) rfl hin rfl (by decide +kernel) rfl rfl (Nat.le_of_ble_eq_true rfl) dX0_init_17 (fun H locs hP hD hS => ?_)
  have hP : va_P G vwCl [(qh, .inr (0, [.ref q7, .ref q15, .int 0])), (q7, .inl (cI, 20, .inl (fun _ => 0))), (q15, .inl (cI, 20, .inl (fun _ => 0)))] H := hP
  have hD : va_D A [(qh, .inr (0, [.ref q7, .ref q15, .int 0])), (q7, .inl (cI, 20, .inl (fun _ => 0))), (q15, .inl (cI, 20, .inl (fun _ => 0)))] := hD
  refine W.widen (k := 2) (n := 40) (by decide) (by decide) ?_
  exact W.vret hx hb hr (fun t ht hW => ⟨⟨(q7, q15), rfl, trivial, by rw [ht]; exact hP, hD⟩, hS.F ht⟩) hS.2.2 dX0_init_20

set_option maxHeartbeats 1000000 in
set_option maxRecDepth 100000 in
theorem ct_X0_placeOf (l : Launch) (G : va_G) (cI cL : ClassId) (sz : Nat) (qh : Nat) (qh1 : Nat) (qh2 : Nat) (zh : Int32) (gt : Nat → Int32) (gu : Nat → Int32) (p0 : Int32) (nh : Nat) (hnh : zh.toInt = nh) (hOh : okH nh gt gu) : Met l yX0_placeOf wsX0_placeOf ({ frames := 0, cells := 0, slots := 0, locals := 0 }) (va_Pc [.ref qh, .int p0] (pre0 G cI cL [(qh, .inr (0, [.ref qh1, .ref qh2, .int zh])), (qh1, .inl (cI, 20, .inl gt)), (qh2, .inl (cI, 20, .inl gu))] sz)) (va_Qi (fun (r : Int32) (u : Unit) => r.toInt = hfind gt p0.toInt nh) (fun (u : Unit) t => va_P G vwCl [(qh, .inr (0, [.ref qh1, .ref qh2, .int zh])), (qh1, .inl (cI, 20, .inl gt)), (qh2, .inl (cI, 20, .inl gu))] t.heap ∧ va_D (va_A [(qh, .inr (0, [.ref qh1, .ref qh2, .int zh])), (qh1, .inl (cI, 20, .inl gt)), (qh2, .inl (cI, 20, .inl gu))] sz) [(qh, .inr (0, [.ref qh1, .ref qh2, .int zh])), (qh1, .inl (cI, 20, .inl gt)), (qh2, .inl (cI, 20, .inl gu))]) (va_A [(qh, .inr (0, [.ref qh1, .ref qh2, .int zh])), (qh1, .inl (cI, 20, .inl gt)), (qh2, .inl (cI, 20, .inl gu))] sz)) 0 0 (va_A [(qh, .inr (0, [.ref qh1, .ref qh2, .int zh])), (qh1, .inl (cI, 20, .inl gt)), (qh2, .inl (cI, 20, .inl gu))] sz) := by
  refine Met.ofW (cc := cX0_placeOf) (maxL := 3) (ret := (some .int)) (by decide) rfl ?_
  intro p e s m args below meth c s₁ B hml hv
  obtain ⟨rfl, hsz, hP, hK, hD0, hN⟩ := hv
  have hx := B.exec
  have hb := B.bytes
  have hr := B.returns
  have hts := atoms_spec (ws := wsX0_placeOf) B.pre
  have hown : s.vm.findClass RX0 = some m.cls := findClass_of_methodNamed B.named
  have hlocks := B.notSynchronized
  subst hsz
  have hD := hD0.self (sz := s.heap.size)
  generalize hAe : va_A [(qh, .inr (0, [.ref qh1, .ref qh2, .int zh])), (qh1, .inl (cI, 20, .inl gt)), (qh2, .inl (cI, 20, .inl gu))] s.heap.size = A at hD ⊢
  have hA : ∀ q : Nat, s.heap.size ≤ q → A q := fun q h => by rw [← hAe]; exact Or.inr h
  have hP : va_P G vwCl [(qh, .inr (0, [.ref qh1, .ref qh2, .int zh])), (qh1, .inl (cI, 20, .inl gt)), (qh2, .inl (cI, 20, .inl gu))] s.heap := hP
  have hl := lv_entry ([.ref qh, .int p0]) (n := 3) (Nat.le_of_ble_eq_true rfl)
  rw [lg_entry_eq]
  generalize (lg_sl ([.ref qh, .int p0]) ++ List.replicate (3 - (lg_sl ([.ref qh, .int p0])).length) Slot.unset).toArray = ls at hl ⊢
  have hl : lv_has ls 3 [(0, .ref qh), (1, .int p0)] := hl
  have hf18 := hts (.fieldLink RX0 18 "TempoMaps$Holds" "size" "I") (by decide +kernel)
  have hf9 := hts (.fieldLink RX0 9 "TempoMaps$Holds" "ticks" "[I") (by decide +kernel)
  have hiX0 : ∀ w ∈ wsX00, w ∈ wsX0_placeOf := by decide +kernel
  have zim1 : ((-1 : Int32)).toInt = -1 := by decide
  have zi1 : ((1 : Int32)).toInt = 1 := by decide
  refine w_h (A := A) hP (fun H locs hP hS => ?_)
  have hn20 := hOh.1
  have hrg := hOh.2.1
  refine lv_aload_n hx hb dX0_placeOf_0 rfl (lv_at hl 0 rfl) ?_
  refine va_get (D := G) (ci := 0) (v := .int zh) (C := RX0) (T := TX0) (N := 3) hx hb hts hiX0 hown hK hP 0 rfl rfl 2 (by decide) hf18 (fun _ h9 => h9) rfl dX0_placeOf_1 ?_
  refine lv_iconst (v := 1) hx hb dX0_placeOf_4 (by decide) ?_
  refine lv_isub hx hb dX0_placeOf_5 ?_
  refine lv_topi (fun x5 ex5 => ?_)
  have tx5 : x5.toInt = zh.toInt - 1 := by rw [ex5]; exact ti_sub rfl (show ((1 : Int32)).toInt = 1 by decide) (by omega) (by omega)
  refine lv_istore_n (lv' := [(2, .int x5), (0, .ref qh), (1, .int p0)]) hx hb dX0_placeOf_6 rfl hl (by decide) rfl (fun ls hl => ?_)
  refine W_loop1 (fun (x2 : Int32) ls H locs => va_P G vwCl [(qh, .inr (0, [.ref qh1, .ref qh2, .int zh])), (qh1, .inl (cI, 20, .inl gt)), (qh2, .inl (cI, 20, .inl gu))] H ∧ va_D A [(qh, .inr (0, [.ref qh1, .ref qh2, .int zh])), (qh1, .inl (cI, 20, .inl gt)), (qh2, .inl (cI, 20, .inl gu))] ∧ va_S A s.heap H locs ∧ lv_has ls 3 [(0, .ref qh), (1, .int p0), (2, .int x2)] ∧ (-1 ≤ x2.toInt ∧ x2.toInt < nh) ∧ (hfind gt p0.toInt nh = hfind gt p0.toInt (x2.toInt + 1).toNat)) (fun (x2 : Int32) => (x2.toInt + 1).toNat) (fun x2 ls H locs hI ih7 => ?_) x5 ls _ _ ⟨hP, hD, hS, lv_sub hl [1, 2, 0] rfl, (show -1 ≤ x5.toInt ∧ x5.toInt < nh from by omega), (show hfind gt p0.toInt nh = hfind gt p0.toInt (x5.toInt + 1).toNat from by rw [show (x5.toInt + 1).toNat = nh by omega])⟩
  obtain ⟨hP, hD, hS, hl, i1, i2⟩ := hI
  refine lv_iload_n hx hb dX0_placeOf_7 rfl (lv_at hl 2 rfl) ?_
  refine lv_if_lt (tgt := 27) hx hb dX0_placeOf_8 (by decide) (fun c8 => ?_) (fun c8 => ?_)
  · have k8 : (x2.toInt : Int) < 0 := i_lt rfl (show ((0 : Int32)).toInt = 0 by decide) c8
    have fr : x2.toInt = hfind gt p0.toInt nh := by rw [i2, show (x2.toInt + 1).toNat = 0 by omega]; simp only [hfind]; omega
    refine lv_iload_n hx hb dX0_placeOf_27 rfl (lv_at hl 2 rfl) ?_
    exact W.iret (v := x2) hx hb hr (fun t ht hW => ⟨⟨x2, (), rfl, (by (try dsimp only); exact (by omega)), by rw [ht]; exact hP, hD⟩, hS.F ht⟩) hS.2.2 dX0_placeOf_28
  · have k8 : (0 : Int) ≤ x2.toInt := i_nlt rfl (show ((0 : Int32)).toInt = 0 by decide) c8
    refine lv_aload_n hx hb dX0_placeOf_11 rfl (lv_at hl 0 rfl) ?_
    refine va_get (D := G) (ci := 0) (v := .ref qh1) (C := RX0) (T := TX0) (N := 3) hx hb hts hiX0 hown hK hP 0 rfl rfl 0 (by decide) hf9 (fun _ h9 => h9) rfl dX0_placeOf_12 ?_
    refine lv_iload_n hx hb dX0_placeOf_15 rfl (lv_at hl 2 rfl) ?_
    refine va_iald hx hb hK hP 1 0 rfl rfl (vi_in rfl (by omega) (by omega)) dX0_placeOf_16 ?_
    refine lv_topi (fun x16 ex16 => ?_)
    have ex16 : x16 = gt x2.toInt.toNat := by rw [ex16]; exact congrArg _ (cl_nat rfl (by omega))
    have tx16 : x16.toInt = (gt x2.toInt.toNat).toInt := by rw [ex16]
    refine lv_iload_n hx hb dX0_placeOf_17 rfl (lv_at hl 1 rfl) ?_
    refine lv_icmp_eq (tgt := 27) hx hb dX0_placeOf_18 (by decide) (fun c18 => ?_) (fun c18 => ?_)
    · have k18 : (x16.toInt : Int) = p0.toInt := i_eq rfl rfl c18
      have fr : x2.toInt = hfind gt p0.toInt nh := by rw [i2, show (x2.toInt + 1).toNat = x2.toInt.toNat + 1 by omega, hfind_yes (by omega)]; omega
      refine lv_iload_n hx hb dX0_placeOf_27 rfl (lv_at hl 2 rfl) ?_
      exact W.iret (v := x2) hx hb hr (fun t ht hW => ⟨⟨x2, (), rfl, (by (try dsimp only); exact (by omega)), by rw [ht]; exact hP, hD⟩, hS.F ht⟩) hS.2.2 dX0_placeOf_28
    · have k18 : (x16.toInt : Int) ≠ p0.toInt := i_ne rfl rfl c18
      obtain ⟨x21, ex21⟩ : ∃ y : Int32, y = x2 + (-1) := ⟨_, rfl⟩
      have tx21 : x21.toInt = x2.toInt + (-1) := by rw [ex21]; exact ti_add rfl (by decide) (by omega) (by omega)
      refine lv_iinc (v := x21) (lv' := [(2, .int x21), (0, .ref qh), (1, .int p0)]) hx hb dX0_placeOf_21 hl (k := 2) rfl (by rw [ex21]; rfl) (by decide) rfl (fun ls hl => ?_)
      refine lv_goto (tgt := 7) hx hb dX0_placeOf_24 (by decide) ?_
      exact ih7 x21 ls _ _ ⟨hP, hD, hS, lv_sub hl [1, 2, 0] rfl, (show -1 ≤ x21.toInt ∧ x21.toInt < nh from by omega), (show hfind gt p0.toInt nh = hfind gt p0.toInt (x21.toInt + 1).toNat from by rw [i2, show (x2.toInt + 1).toNat = (x21.toInt + 1).toNat + 1 by omega, hfind_no (by rw [show (x21.toInt + 1).toNat = x2.toInt.toNat by omega]; omega)])⟩ (show (x21.toInt + 1).toNat < (x2.toInt + 1).toNat from by omega)
set_option maxHeartbeats 1000000 in
set_option maxRecDepth 100000 in
theorem ct_X0_put (l : Launch) (G : va_G) (cI cL : ClassId) (sz : Nat) (qh : Nat) (qh1 : Nat) (qh2 : Nat) (zh : Int32) (gt : Nat → Int32) (gu : Nat → Int32) (p0 : Int32) (p1 : Int32) (nh : Nat) (hnh : zh.toInt = nh) (hOh : okH nh gt gu) : Met l yX0_put wsX0_put ({ frames := 1, cells := 0, slots := 0, locals := 22 }) (va_Pc [.ref qh, .int p0, .int p1] (pre0 G cI cL [(qh, .inr (0, [.ref qh1, .ref qh2, .int zh])), (qh1, .inl (cI, 20, .inl gt)), (qh2, .inl (cI, 20, .inl gu))] sz)) (va_Qi (fun (r : Int32) (u : Int32 × (Nat → Int32) × (Nat → Int32)) => ∃ n' : Nat, u.1.toInt = n' ∧ hPut nh gt gu p0 p1 r.toInt n' u.2.1 u.2.2) (fun (u : Int32 × (Nat → Int32) × (Nat → Int32)) t => va_P G vwCl [(qh, .inr (0, [.ref qh1, .ref qh2, .int u.1])), (qh1, .inl (cI, 20, .inl (u.2.1))), (qh2, .inl (cI, 20, .inl (u.2.2)))] t.heap ∧ va_D (va_A [(qh, .inr (0, [.ref qh1, .ref qh2, .int zh])), (qh1, .inl (cI, 20, .inl gt)), (qh2, .inl (cI, 20, .inl gu))] sz) [(qh, .inr (0, [.ref qh1, .ref qh2, .int u.1])), (qh1, .inl (cI, 20, .inl (u.2.1))), (qh2, .inl (cI, 20, .inl (u.2.2)))]) (va_A [(qh, .inr (0, [.ref qh1, .ref qh2, .int zh])), (qh1, .inl (cI, 20, .inl gt)), (qh2, .inl (cI, 20, .inl gu))] sz)) 0 0 (va_A [(qh, .inr (0, [.ref qh1, .ref qh2, .int zh])), (qh1, .inl (cI, 20, .inl gt)), (qh2, .inl (cI, 20, .inl gu))] sz) := by
  refine Met.ofW (cc := cX0_put) (maxL := 4) (ret := (some .int)) (by decide) rfl ?_
  intro p e s m args below meth c s₁ B hml hv
  obtain ⟨rfl, hsz, hP, hK, hD0, hN⟩ := hv
  have hx := B.exec
  have hb := B.bytes
  have hr := B.returns
  have hts := atoms_spec (ws := wsX0_put) B.pre
  have hown : s.vm.findClass RX0 = some m.cls := findClass_of_methodNamed B.named
  have hlocks := B.notSynchronized
  subst hsz
  have hD := hD0.self (sz := s.heap.size)
  generalize hAe : va_A [(qh, .inr (0, [.ref qh1, .ref qh2, .int zh])), (qh1, .inl (cI, 20, .inl gt)), (qh2, .inl (cI, 20, .inl gu))] s.heap.size = A at hD ⊢
  have hA : ∀ q : Nat, s.heap.size ≤ q → A q := fun q h => by rw [← hAe]; exact Or.inr h
  have hP : va_P G vwCl [(qh, .inr (0, [.ref qh1, .ref qh2, .int zh])), (qh1, .inl (cI, 20, .inl gt)), (qh2, .inl (cI, 20, .inl gu))] s.heap := hP
  have hl := lv_entry ([.ref qh, .int p0, .int p1]) (n := 4) (Nat.le_of_ble_eq_true rfl)
  rw [lg_entry_eq]
  generalize (lg_sl ([.ref qh, .int p0, .int p1]) ++ List.replicate (4 - (lg_sl ([.ref qh, .int p0, .int p1])).length) Slot.unset).toArray = ls at hl ⊢
  have hl : lv_has ls 4 [(0, .ref qh), (1, .int p0), (2, .int p1)] := hl
  have hf18 := hts (.fieldLink RX0 18 "TempoMaps$Holds" "size" "I") (by decide +kernel)
  have hf9 := hts (.fieldLink RX0 9 "TempoMaps$Holds" "ticks" "[I") (by decide +kernel)
  have hf15 := hts (.fieldLink RX0 15 "TempoMaps$Holds" "units" "[I") (by decide +kernel)
  have hiX0 : ∀ w ∈ wsX00, w ∈ wsX0_put := by decide +kernel
  have zim4 : ((-4 : Int32)).toInt = -4 := by decide
  have zi1 : ((1 : Int32)).toInt = 1 := by decide
  have zi20 : ((20 : Int32)).toInt = 20 := by decide
  refine w_h (A := A) hP (fun H locs hP hS => ?_)
  have hn20 := hOh.1
  have hrg := hOh.2.1
  refine lv_aload_n hx hb dX0_put_0 rfl (lv_at hl 0 rfl) ?_
  refine lv_iload_n hx hb dX0_put_1 rfl (lv_at hl 1 rfl) ?_
  have hPc := hP.sub (ws' := [(qh, .inr (0, [.ref qh1, .ref qh2, .int zh])), (qh1, .inl (cI, 20, .inl gt)), (qh2, .inl (cI, 20, .inl gu))]) [0, 1, 2] rfl
  have hDc := hD.sub (ws' := [(qh, .inr (0, [.ref qh1, .ref qh2, .int zh])), (qh1, .inl (cI, 20, .inl gt)), (qh2, .inl (cI, 20, .inl gu))]) [0, 1, 2] (by decide) rfl
  have hcc := (ct_X0_placeOf l G cI cL H.size qh qh1 qh2 zh gt gu p0 nh hnh hOh)
  refine ro_calli (va_runV (As := [.int p0]) (rest := []) ⟨hx, hb, hml, hown, hts⟩ hcc (cwV 1 hts gX0_put_X0_placeOf rfl rfl rfl (by decide +kernel) ⟨Nat.le_of_ble_eq_true rfl, Nat.le_of_ble_eq_true rfl⟩) ⟨pre_blind, va_recv hK hPc (ci := 0) (q0 := 0) rfl rfl, pre_pass hK hN hPc hDc⟩ rfl rfl hl.1 rfl (lv_room (Nat.le_of_ble_eq_true rfl)) dX0_put_2 ⟨Nat.le_of_ble_eq_true rfl, Nat.le_of_ble_eq_true rfl⟩) hP hD hS hA [0, 1, 2] rfl (fun r2 H locs hw2 hP hS => ?_)
  try dsimp only at hw2
  have hf := hfind_rng (t := gt) (x := p0.toInt) nh
  try rw [← hw2] at hf
  refine lv_istore_n (lv' := [(3, .int r2), (0, .ref qh), (1, .int p0), (2, .int p1)]) hx hb dX0_put_5 rfl hl (by decide) rfl (fun ls hl => ?_)
  refine lv_iload_n hx hb dX0_put_6 rfl (lv_at hl 0 rfl) ?_
  refine lv_if_ge (tgt := 37) hx hb dX0_put_7 (by decide) (fun c7 => ?_) (fun c7 => ?_)
  · have k7 : (0 : Int) ≤ r2.toInt := i_le (show ((0 : Int32)).toInt = 0 by decide) rfl c7
    refine lv_aload_n hx hb dX0_put_37 rfl (lv_at hl 1 rfl) ?_
    refine va_get (D := G) (ci := 0) (v := .ref qh1) (C := RX0) (T := TX0) (N := 3) hx hb hts hiX0 hown hK hP 0 rfl rfl 0 (by decide) hf9 (fun _ h9 => h9) rfl dX0_put_38 ?_
    refine lv_iload_n hx hb dX0_put_41 rfl (lv_at hl 0 rfl) ?_
    refine lv_iload_n hx hb dX0_put_42 rfl (lv_at hl 2 rfl) ?_
    refine va_iast hx hb hK hP hD hS 1 0 rfl rfl (vi_in rfl (by omega) (by omega)) dX0_put_43 (fun H locs hP hD hS => ?_)
    rw [cl_nat rfl (show r2.toInt = ((r2.toInt.toNat : Nat) : Int) by omega)] at hP hD
    have hP : va_P G vwCl [(qh, .inr (0, [.ref qh1, .ref qh2, .int zh])), (qh1, .inl (cI, 20, .inl (upd gt r2.toInt.toNat p0))), (qh2, .inl (cI, 20, .inl gu))] H := hP
    have hD : va_D A [(qh, .inr (0, [.ref qh1, .ref qh2, .int zh])), (qh1, .inl (cI, 20, .inl (upd gt r2.toInt.toNat p0))), (qh2, .inl (cI, 20, .inl gu))] := hD
    refine lv_aload_n hx hb dX0_put_44 rfl (lv_at hl 1 rfl) ?_
    refine va_get (D := G) (ci := 0) (v := .ref qh2) (C := RX0) (T := TX0) (N := 3) hx hb hts hiX0 hown hK hP 0 rfl rfl 1 (by decide) hf15 (fun _ h9 => h9) rfl dX0_put_45 ?_
    refine lv_iload_n hx hb dX0_put_48 rfl (lv_at hl 0 rfl) ?_
    refine lv_iload_n hx hb dX0_put_49 rfl (lv_at hl 3 rfl) ?_
    refine va_iast hx hb hK hP hD hS 2 0 rfl rfl (vi_in rfl (by omega) (by omega)) dX0_put_50 (fun H locs hP hD hS => ?_)
    rw [cl_nat rfl (show r2.toInt = ((r2.toInt.toNat : Nat) : Int) by omega)] at hP hD
    have hP : va_P G vwCl [(qh, .inr (0, [.ref qh1, .ref qh2, .int zh])), (qh1, .inl (cI, 20, .inl (upd gt r2.toInt.toNat p0))), (qh2, .inl (cI, 20, .inl (upd gu r2.toInt.toNat p1)))] H := hP
    have hD : va_D A [(qh, .inr (0, [.ref qh1, .ref qh2, .int zh])), (qh1, .inl (cI, 20, .inl (upd gt r2.toInt.toNat p0))), (qh2, .inl (cI, 20, .inl (upd gu r2.toInt.toNat p1)))] := hD
    refine lv_aload_n hx hb dX0_put_51 rfl (lv_at hl 1 rfl) ?_
    refine va_get (D := G) (ci := 0) (v := .int zh) (C := RX0) (T := TX0) (N := 3) hx hb hts hiX0 hown hK hP 0 rfl rfl 2 (by decide) hf18 (fun _ h9 => h9) rfl dX0_put_52 ?_
    exact W.iret (v := zh) hx hb hr (fun t ht hW => ⟨⟨zh, (zh, upd gt r2.toInt.toNat p0, upd gu r2.toInt.toNat p1), rfl, (by (try dsimp only); exact (by first | exact ⟨nh, hnh, Or.inl ⟨by omega, hnh, rfl, by rw [← hw2], by rw [← hw2]⟩⟩ | exact ⟨nh + 1, by omega, Or.inr (Or.inr ⟨by omega, by omega, by omega, rfl, by rw [show zh.toInt.toNat = nh by omega], by rw [show zh.toInt.toNat = nh by omega]⟩)⟩)), by rw [ht]; exact hP, hD⟩, hS.F ht⟩) hS.2.2 dX0_put_55
  · have k7 : (r2.toInt : Int) < 0 := i_nle (show ((0 : Int32)).toInt = 0 by decide) rfl c7
    refine lv_aload_n hx hb dX0_put_10 rfl (lv_at hl 1 rfl) ?_
    refine va_get (D := G) (ci := 0) (v := .int zh) (C := RX0) (T := TX0) (N := 3) hx hb hts hiX0 hown hK hP 0 rfl rfl 2 (by decide) hf18 (fun _ h9 => h9) rfl dX0_put_11 ?_
    refine lv_bipush (v := 20) hx hb dX0_put_14 (by decide) ?_
    refine lv_icmp_lt (tgt := 22) hx hb dX0_put_16 (by decide) (fun c16 => ?_) (fun c16 => ?_)
    · have k16 : (zh.toInt : Int) < 20 := i_lt rfl (show ((20 : Int32)).toInt = 20 by decide) c16
      refine lv_aload_n hx hb dX0_put_22 rfl (lv_at hl 1 rfl) ?_
      refine va_get (D := G) (ci := 0) (v := .int zh) (C := RX0) (T := TX0) (N := 3) hx hb hts hiX0 hown hK hP 0 rfl rfl 2 (by decide) hf18 (fun _ h9 => h9) rfl dX0_put_23 ?_
      refine lv_istore_n (lv' := [(3, .int zh), (0, .ref qh), (1, .int p0), (2, .int p1)]) hx hb dX0_put_26 rfl hl (by decide) rfl (fun ls hl => ?_)
      refine lv_aload_n hx hb dX0_put_27 rfl (lv_at hl 1 rfl) ?_
      refine lv_dup hx hb dX0_put_28 rfl ?_
      refine va_get (D := G) (ci := 0) (v := .int zh) (C := RX0) (T := TX0) (N := 3) hx hb hts hiX0 hown hK hP 0 rfl rfl 2 (by decide) hf18 (fun _ h9 => h9) rfl dX0_put_29 ?_
      refine lv_iconst (v := 1) hx hb dX0_put_32 (by decide) ?_
      refine lv_iadd hx hb dX0_put_33 ?_
      refine lv_topi (fun x33 ex33 => ?_)
      have tx33 : x33.toInt = zh.toInt + 1 := by rw [ex33]; exact ti_add rfl (show ((1 : Int32)).toInt = 1 by decide) (by omega) (by omega)
      refine va_put (D := G) (ci := 0) (v := .int x33) (ty := .int) (C := RX0) (T := TX0) (N := 3) hx hb hts hiX0 tyX0 tyX0_ok nmX0 hown hK hP hD hS 0 rfl rfl 2 (by decide) hf18 (fun _ h9 => h9) rfl (by decide +kernel) rfl rfl (Nat.le_of_ble_eq_true rfl) dX0_put_34 (fun H locs hP hD hS => ?_)
      have hP : va_P G vwCl [(qh, .inr (0, [.ref qh1, .ref qh2, .int x33])), (qh1, .inl (cI, 20, .inl gt)), (qh2, .inl (cI, 20, .inl gu))] H := hP
      have hD : va_D A [(qh, .inr (0, [.ref qh1, .ref qh2, .int x33])), (qh1, .inl (cI, 20, .inl gt)), (qh2, .inl (cI, 20, .inl gu))] := hD
      refine lv_aload_n hx hb dX0_put_37 rfl (lv_at hl 1 rfl) ?_
      refine va_get (D := G) (ci := 0) (v := .ref qh1) (C := RX0) (T := TX0) (N := 3) hx hb hts hiX0 hown hK hP 0 rfl rfl 0 (by decide) hf9 (fun _ h9 => h9) rfl dX0_put_38 ?_
      refine lv_iload_n hx hb dX0_put_41 rfl (lv_at hl 0 rfl) ?_
      refine lv_iload_n hx hb dX0_put_42 rfl (lv_at hl 2 rfl) ?_
      refine va_iast hx hb hK hP hD hS 1 0 rfl rfl (vi_in rfl (by omega) (by omega)) dX0_put_43 (fun H locs hP hD hS => ?_)
      rw [cl_nat rfl (show zh.toInt = ((zh.toInt.toNat : Nat) : Int) by omega)] at hP hD
      have hP : va_P G vwCl [(qh, .inr (0, [.ref qh1, .ref qh2, .int x33])), (qh1, .inl (cI, 20, .inl (upd gt zh.toInt.toNat p0))), (qh2, .inl (cI, 20, .inl gu))] H := hP
      have hD : va_D A [(qh, .inr (0, [.ref qh1, .ref qh2, .int x33])), (qh1, .inl (cI, 20, .inl (upd gt zh.toInt.toNat p0))), (qh2, .inl (cI, 20, .inl gu))] := hD
      refine lv_aload_n hx hb dX0_put_44 rfl (lv_at hl 1 rfl) ?_
      refine va_get (D := G) (ci := 0) (v := .ref qh2) (C := RX0) (T := TX0) (N := 3) hx hb hts hiX0 hown hK hP 0 rfl rfl 1 (by decide) hf15 (fun _ h9 => h9) rfl dX0_put_45 ?_
      refine lv_iload_n hx hb dX0_put_48 rfl (lv_at hl 0 rfl) ?_
      refine lv_iload_n hx hb dX0_put_49 rfl (lv_at hl 3 rfl) ?_
      refine va_iast hx hb hK hP hD hS 2 0 rfl rfl (vi_in rfl (by omega) (by omega)) dX0_put_50 (fun H locs hP hD hS => ?_)
      rw [cl_nat rfl (show zh.toInt = ((zh.toInt.toNat : Nat) : Int) by omega)] at hP hD
      have hP : va_P G vwCl [(qh, .inr (0, [.ref qh1, .ref qh2, .int x33])), (qh1, .inl (cI, 20, .inl (upd gt zh.toInt.toNat p0))), (qh2, .inl (cI, 20, .inl (upd gu zh.toInt.toNat p1)))] H := hP
      have hD : va_D A [(qh, .inr (0, [.ref qh1, .ref qh2, .int x33])), (qh1, .inl (cI, 20, .inl (upd gt zh.toInt.toNat p0))), (qh2, .inl (cI, 20, .inl (upd gu zh.toInt.toNat p1)))] := hD
      refine lv_aload_n hx hb dX0_put_51 rfl (lv_at hl 1 rfl) ?_
      refine va_get (D := G) (ci := 0) (v := .int x33) (C := RX0) (T := TX0) (N := 3) hx hb hts hiX0 hown hK hP 0 rfl rfl 2 (by decide) hf18 (fun _ h9 => h9) rfl dX0_put_52 ?_
      exact W.iret (v := x33) hx hb hr (fun t ht hW => ⟨⟨x33, (x33, upd gt zh.toInt.toNat p0, upd gu zh.toInt.toNat p1), rfl, (by (try dsimp only); exact (by first | exact ⟨nh, hnh, Or.inl ⟨by omega, hnh, rfl, by rw [← hw2], by rw [← hw2]⟩⟩ | exact ⟨nh + 1, by omega, Or.inr (Or.inr ⟨by omega, by omega, by omega, rfl, by rw [show zh.toInt.toNat = nh by omega], by rw [show zh.toInt.toNat = nh by omega]⟩)⟩)), by rw [ht]; exact hP, hD⟩, hS.F ht⟩) hS.2.2 dX0_put_55
    · have k16 : (20 : Int) ≤ zh.toInt := i_nlt rfl (show ((20 : Int32)).toInt = 20 by decide) c16
      refine lv_bipush (v := (-4)) hx hb dX0_put_19 (by decide) ?_
      exact W.iret (v := (-4)) hx hb hr (fun t ht hW => ⟨⟨(-4), (zh, gt, gu), rfl, (by (try dsimp only); exact ⟨nh, hnh, Or.inr (Or.inl ⟨by omega, by omega, by decide, rfl, rfl, rfl⟩)⟩), by rw [ht]; exact hP, hD⟩, hS.F ht⟩) hS.2.2 dX0_put_21
set_option maxHeartbeats 1000000 in
set_option maxRecDepth 100000 in
theorem ct_X0_remove (l : Launch) (G : va_G) (cI cL : ClassId) (sz : Nat) (qh : Nat) (qh1 : Nat) (qh2 : Nat) (zh : Int32) (gt : Nat → Int32) (gu : Nat → Int32) (p0 : Int32) (nh : Nat) (hnh : zh.toInt = nh) (hOh : okH nh gt gu) : Met l yX0_remove wsX0_remove ({ frames := 1, cells := 0, slots := 0, locals := 22 }) (va_Pc [.ref qh, .int p0] (pre0 G cI cL [(qh, .inr (0, [.ref qh1, .ref qh2, .int zh])), (qh1, .inl (cI, 20, .inl gt)), (qh2, .inl (cI, 20, .inl gu))] sz)) (va_Qi (fun (r : Int32) (u : Int32 × (Nat → Int32) × (Nat → Int32)) => ∃ n' : Nat, u.1.toInt = n' ∧ hRem nh gt gu p0 r.toInt n' u.2.1 u.2.2) (fun (u : Int32 × (Nat → Int32) × (Nat → Int32)) t => va_P G vwCl [(qh, .inr (0, [.ref qh1, .ref qh2, .int u.1])), (qh1, .inl (cI, 20, .inl (u.2.1))), (qh2, .inl (cI, 20, .inl (u.2.2)))] t.heap ∧ va_D (va_A [(qh, .inr (0, [.ref qh1, .ref qh2, .int zh])), (qh1, .inl (cI, 20, .inl gt)), (qh2, .inl (cI, 20, .inl gu))] sz) [(qh, .inr (0, [.ref qh1, .ref qh2, .int u.1])), (qh1, .inl (cI, 20, .inl (u.2.1))), (qh2, .inl (cI, 20, .inl (u.2.2)))]) (va_A [(qh, .inr (0, [.ref qh1, .ref qh2, .int zh])), (qh1, .inl (cI, 20, .inl gt)), (qh2, .inl (cI, 20, .inl gu))] sz)) 0 0 (va_A [(qh, .inr (0, [.ref qh1, .ref qh2, .int zh])), (qh1, .inl (cI, 20, .inl gt)), (qh2, .inl (cI, 20, .inl gu))] sz) := by
  refine Met.ofW (cc := cX0_remove) (maxL := 3) (ret := (some .int)) (by decide) rfl ?_
  intro p e s m args below meth c s₁ B hml hv
  obtain ⟨rfl, hsz, hP, hK, hD0, hN⟩ := hv
  have hx := B.exec
  have hb := B.bytes
  have hr := B.returns
  have hts := atoms_spec (ws := wsX0_remove) B.pre
  have hown : s.vm.findClass RX0 = some m.cls := findClass_of_methodNamed B.named
  have hlocks := B.notSynchronized
  subst hsz
  have hD := hD0.self (sz := s.heap.size)
  generalize hAe : va_A [(qh, .inr (0, [.ref qh1, .ref qh2, .int zh])), (qh1, .inl (cI, 20, .inl gt)), (qh2, .inl (cI, 20, .inl gu))] s.heap.size = A at hD ⊢
  have hA : ∀ q : Nat, s.heap.size ≤ q → A q := fun q h => by rw [← hAe]; exact Or.inr h
  have hP : va_P G vwCl [(qh, .inr (0, [.ref qh1, .ref qh2, .int zh])), (qh1, .inl (cI, 20, .inl gt)), (qh2, .inl (cI, 20, .inl gu))] s.heap := hP
  have hl := lv_entry ([.ref qh, .int p0]) (n := 3) (Nat.le_of_ble_eq_true rfl)
  rw [lg_entry_eq]
  generalize (lg_sl ([.ref qh, .int p0]) ++ List.replicate (3 - (lg_sl ([.ref qh, .int p0])).length) Slot.unset).toArray = ls at hl ⊢
  have hl : lv_has ls 3 [(0, .ref qh), (1, .int p0)] := hl
  have hf18 := hts (.fieldLink RX0 18 "TempoMaps$Holds" "size" "I") (by decide +kernel)
  have hf9 := hts (.fieldLink RX0 9 "TempoMaps$Holds" "ticks" "[I") (by decide +kernel)
  have hf15 := hts (.fieldLink RX0 15 "TempoMaps$Holds" "units" "[I") (by decide +kernel)
  have hiX0 : ∀ w ∈ wsX00, w ∈ wsX0_remove := by decide +kernel
  have zi1 : ((1 : Int32)).toInt = 1 := by decide
  refine w_h (A := A) hP (fun H locs hP hS => ?_)
  have hn20 := hOh.1
  have hrg := hOh.2.1
  refine lv_aload_n hx hb dX0_remove_0 rfl (lv_at hl 0 rfl) ?_
  refine lv_iload_n hx hb dX0_remove_1 rfl (lv_at hl 1 rfl) ?_
  have hPc := hP.sub (ws' := [(qh, .inr (0, [.ref qh1, .ref qh2, .int zh])), (qh1, .inl (cI, 20, .inl gt)), (qh2, .inl (cI, 20, .inl gu))]) [0, 1, 2] rfl
  have hDc := hD.sub (ws' := [(qh, .inr (0, [.ref qh1, .ref qh2, .int zh])), (qh1, .inl (cI, 20, .inl gt)), (qh2, .inl (cI, 20, .inl gu))]) [0, 1, 2] (by decide) rfl
  have hcc := (ct_X0_placeOf l G cI cL H.size qh qh1 qh2 zh gt gu p0 nh hnh hOh)
  refine ro_calli (va_runV (As := [.int p0]) (rest := []) ⟨hx, hb, hml, hown, hts⟩ hcc (cwV 1 hts gX0_remove_X0_placeOf rfl rfl rfl (by decide +kernel) ⟨Nat.le_of_ble_eq_true rfl, Nat.le_of_ble_eq_true rfl⟩) ⟨pre_blind, va_recv hK hPc (ci := 0) (q0 := 0) rfl rfl, pre_pass hK hN hPc hDc⟩ rfl rfl hl.1 rfl (lv_room (Nat.le_of_ble_eq_true rfl)) dX0_remove_2 ⟨Nat.le_of_ble_eq_true rfl, Nat.le_of_ble_eq_true rfl⟩) hP hD hS hA [0, 1, 2] rfl (fun r2 H locs hw2 hP hS => ?_)
  try dsimp only at hw2
  have hf := hfind_rng (t := gt) (x := p0.toInt) nh
  try rw [← hw2] at hf
  refine lv_istore_n (lv' := [(2, .int r2), (0, .ref qh), (1, .int p0)]) hx hb dX0_remove_5 rfl hl (by decide) rfl (fun ls hl => ?_)
  refine lv_iload_n hx hb dX0_remove_6 rfl (lv_at hl 0 rfl) ?_
  refine lv_if_lt (tgt := 50) hx hb dX0_remove_7 (by decide) (fun c7 => ?_) (fun c7 => ?_)
  · have k7 : (r2.toInt : Int) < 0 := i_lt rfl (show ((0 : Int32)).toInt = 0 by decide) c7
    refine lv_aload_n hx hb dX0_remove_50 rfl (lv_at hl 1 rfl) ?_
    refine va_get (D := G) (ci := 0) (v := .int zh) (C := RX0) (T := TX0) (N := 3) hx hb hts hiX0 hown hK hP 0 rfl rfl 2 (by decide) hf18 (fun _ h9 => h9) rfl dX0_remove_51 ?_
    exact W.iret (v := zh) hx hb hr (fun t ht hW => ⟨⟨zh, (zh, gt, gu), rfl, (by (try dsimp only); exact (by first | exact ⟨nh, hnh, Or.inr ⟨by omega, hnh, rfl, rfl, rfl⟩⟩ | exact ⟨nh - 1, by omega, Or.inl ⟨by omega, by omega, by omega, by rw [← hw2, ex33], by rw [← hw2, ex48]⟩⟩)), by rw [ht]; exact hP, hD⟩, hS.F ht⟩) hS.2.2 dX0_remove_54
  · have k7 : (0 : Int) ≤ r2.toInt := i_nlt rfl (show ((0 : Int32)).toInt = 0 by decide) c7
    refine lv_aload_n hx hb dX0_remove_10 rfl (lv_at hl 1 rfl) ?_
    refine lv_dup hx hb dX0_remove_11 rfl ?_
    refine va_get (D := G) (ci := 0) (v := .int zh) (C := RX0) (T := TX0) (N := 3) hx hb hts hiX0 hown hK hP 0 rfl rfl 2 (by decide) hf18 (fun _ h9 => h9) rfl dX0_remove_12 ?_
    refine lv_iconst (v := 1) hx hb dX0_remove_15 (by decide) ?_
    refine lv_isub hx hb dX0_remove_16 ?_
    refine lv_topi (fun x16 ex16 => ?_)
    have tx16 : x16.toInt = zh.toInt - 1 := by rw [ex16]; exact ti_sub rfl (show ((1 : Int32)).toInt = 1 by decide) (by omega) (by omega)
    refine va_put (D := G) (ci := 0) (v := .int x16) (ty := .int) (C := RX0) (T := TX0) (N := 3) hx hb hts hiX0 tyX0 tyX0_ok nmX0 hown hK hP hD hS 0 rfl rfl 2 (by decide) hf18 (fun _ h9 => h9) rfl (by decide +kernel) rfl rfl (Nat.le_of_ble_eq_true rfl) dX0_remove_17 (fun H locs hP hD hS => ?_)
    have hP : va_P G vwCl [(qh, .inr (0, [.ref qh1, .ref qh2, .int x16])), (qh1, .inl (cI, 20, .inl gt)), (qh2, .inl (cI, 20, .inl gu))] H := hP
    have hD : va_D A [(qh, .inr (0, [.ref qh1, .ref qh2, .int x16])), (qh1, .inl (cI, 20, .inl gt)), (qh2, .inl (cI, 20, .inl gu))] := hD
    refine lv_aload_n hx hb dX0_remove_20 rfl (lv_at hl 1 rfl) ?_
    refine va_get (D := G) (ci := 0) (v := .ref qh1) (C := RX0) (T := TX0) (N := 3) hx hb hts hiX0 hown hK hP 0 rfl rfl 0 (by decide) hf9 (fun _ h9 => h9) rfl dX0_remove_21 ?_
    refine lv_iload_n hx hb dX0_remove_24 rfl (lv_at hl 0 rfl) ?_
    refine lv_aload_n hx hb dX0_remove_25 rfl (lv_at hl 1 rfl) ?_
    refine va_get (D := G) (ci := 0) (v := .ref qh1) (C := RX0) (T := TX0) (N := 3) hx hb hts hiX0 hown hK hP 0 rfl rfl 0 (by decide) hf9 (fun _ h9 => h9) rfl dX0_remove_26 ?_
    refine lv_aload_n hx hb dX0_remove_29 rfl (lv_at hl 1 rfl) ?_
    refine va_get (D := G) (ci := 0) (v := .int x16) (C := RX0) (T := TX0) (N := 3) hx hb hts hiX0 hown hK hP 0 rfl rfl 2 (by decide) hf18 (fun _ h9 => h9) rfl dX0_remove_30 ?_
    refine va_iald hx hb hK hP 1 0 rfl rfl (vi_in rfl (by omega) (by omega)) dX0_remove_33 ?_
    refine lv_topi (fun x33 ex33 => ?_)
    have ex33 : x33 = gt (nh - 1) := by rw [ex33]; exact congrArg _ (cl_nat rfl (by omega))
    have tx33 : x33.toInt = (gt (nh - 1)).toInt := by rw [ex33]
    refine va_iast hx hb hK hP hD hS 1 0 rfl rfl (vi_in rfl (by omega) (by omega)) dX0_remove_34 (fun H locs hP hD hS => ?_)
    rw [cl_nat rfl (show r2.toInt = ((r2.toInt.toNat : Nat) : Int) by omega)] at hP hD
    have hP : va_P G vwCl [(qh, .inr (0, [.ref qh1, .ref qh2, .int x16])), (qh1, .inl (cI, 20, .inl (upd gt r2.toInt.toNat x33))), (qh2, .inl (cI, 20, .inl gu))] H := hP
    have hD : va_D A [(qh, .inr (0, [.ref qh1, .ref qh2, .int x16])), (qh1, .inl (cI, 20, .inl (upd gt r2.toInt.toNat x33))), (qh2, .inl (cI, 20, .inl gu))] := hD
    refine lv_aload_n hx hb dX0_remove_35 rfl (lv_at hl 1 rfl) ?_
    refine va_get (D := G) (ci := 0) (v := .ref qh2) (C := RX0) (T := TX0) (N := 3) hx hb hts hiX0 hown hK hP 0 rfl rfl 1 (by decide) hf15 (fun _ h9 => h9) rfl dX0_remove_36 ?_
    refine lv_iload_n hx hb dX0_remove_39 rfl (lv_at hl 0 rfl) ?_
    refine lv_aload_n hx hb dX0_remove_40 rfl (lv_at hl 1 rfl) ?_
    refine va_get (D := G) (ci := 0) (v := .ref qh2) (C := RX0) (T := TX0) (N := 3) hx hb hts hiX0 hown hK hP 0 rfl rfl 1 (by decide) hf15 (fun _ h9 => h9) rfl dX0_remove_41 ?_
    refine lv_aload_n hx hb dX0_remove_44 rfl (lv_at hl 1 rfl) ?_
    refine va_get (D := G) (ci := 0) (v := .int x16) (C := RX0) (T := TX0) (N := 3) hx hb hts hiX0 hown hK hP 0 rfl rfl 2 (by decide) hf18 (fun _ h9 => h9) rfl dX0_remove_45 ?_
    refine va_iald hx hb hK hP 2 0 rfl rfl (vi_in rfl (by omega) (by omega)) dX0_remove_48 ?_
    refine lv_topi (fun x48 ex48 => ?_)
    have ex48 : x48 = gu (nh - 1) := by rw [ex48]; exact congrArg _ (cl_nat rfl (by omega))
    have tx48 : x48.toInt = (gu (nh - 1)).toInt := by rw [ex48]
    refine va_iast hx hb hK hP hD hS 2 0 rfl rfl (vi_in rfl (by omega) (by omega)) dX0_remove_49 (fun H locs hP hD hS => ?_)
    rw [cl_nat rfl (show r2.toInt = ((r2.toInt.toNat : Nat) : Int) by omega)] at hP hD
    have hP : va_P G vwCl [(qh, .inr (0, [.ref qh1, .ref qh2, .int x16])), (qh1, .inl (cI, 20, .inl (upd gt r2.toInt.toNat x33))), (qh2, .inl (cI, 20, .inl (upd gu r2.toInt.toNat x48)))] H := hP
    have hD : va_D A [(qh, .inr (0, [.ref qh1, .ref qh2, .int x16])), (qh1, .inl (cI, 20, .inl (upd gt r2.toInt.toNat x33))), (qh2, .inl (cI, 20, .inl (upd gu r2.toInt.toNat x48)))] := hD
    refine lv_aload_n hx hb dX0_remove_50 rfl (lv_at hl 1 rfl) ?_
    refine va_get (D := G) (ci := 0) (v := .int x16) (C := RX0) (T := TX0) (N := 3) hx hb hts hiX0 hown hK hP 0 rfl rfl 2 (by decide) hf18 (fun _ h9 => h9) rfl dX0_remove_51 ?_
    exact W.iret (v := x16) hx hb hr (fun t ht hW => ⟨⟨x16, (x16, upd gt r2.toInt.toNat x33, upd gu r2.toInt.toNat x48), rfl, (by (try dsimp only); exact (by first | exact ⟨nh, hnh, Or.inr ⟨by omega, hnh, rfl, rfl, rfl⟩⟩ | exact ⟨nh - 1, by omega, Or.inl ⟨by omega, by omega, by omega, by rw [← hw2, ex33], by rw [← hw2, ex48]⟩⟩)), by rw [ht]; exact hP, hD⟩, hS.F ht⟩) hS.2.2 dX0_remove_54
set_option maxHeartbeats 1000000 in
set_option maxRecDepth 100000 in
theorem ct_X0_unitsUpTo (l : Launch) (G : va_G) (cI cL : ClassId) (sz : Nat) (qh : Nat) (qh1 : Nat) (qh2 : Nat) (zh : Int32) (gt : Nat → Int32) (gu : Nat → Int32) (p0 : Int32) (nh : Nat) (hnh : zh.toInt = nh) (hOh : okH nh gt gu) : Met l yX0_unitsUpTo wsX0_unitsUpTo ({ frames := 0, cells := 0, slots := 0, locals := 0 }) (va_Pc [.ref qh, .int p0] (pre0 G cI cL [(qh, .inr (0, [.ref qh1, .ref qh2, .int zh])), (qh1, .inl (cI, 20, .inl gt)), (qh2, .inl (cI, 20, .inl gu))] sz)) (va_Ql (fun (r : Int64) (u : Unit) => r.toInt = hsum gt gu p0.toInt nh) (fun (u : Unit) t => va_P G vwCl [(qh, .inr (0, [.ref qh1, .ref qh2, .int zh])), (qh1, .inl (cI, 20, .inl gt)), (qh2, .inl (cI, 20, .inl gu))] t.heap ∧ va_D (va_A [(qh, .inr (0, [.ref qh1, .ref qh2, .int zh])), (qh1, .inl (cI, 20, .inl gt)), (qh2, .inl (cI, 20, .inl gu))] sz) [(qh, .inr (0, [.ref qh1, .ref qh2, .int zh])), (qh1, .inl (cI, 20, .inl gt)), (qh2, .inl (cI, 20, .inl gu))]) (va_A [(qh, .inr (0, [.ref qh1, .ref qh2, .int zh])), (qh1, .inl (cI, 20, .inl gt)), (qh2, .inl (cI, 20, .inl gu))] sz)) 0 0 (va_A [(qh, .inr (0, [.ref qh1, .ref qh2, .int zh])), (qh1, .inl (cI, 20, .inl gt)), (qh2, .inl (cI, 20, .inl gu))] sz) := by
  refine Met.ofW (cc := cX0_unitsUpTo) (maxL := 5) (ret := (some .long)) (by decide) rfl ?_
  intro p e s m args below meth c s₁ B hml hv
  obtain ⟨rfl, hsz, hP, hK, hD0, hN⟩ := hv
  have hx := B.exec
  have hb := B.bytes
  have hr := B.returns
  have hts := atoms_spec (ws := wsX0_unitsUpTo) B.pre
  have hown : s.vm.findClass RX0 = some m.cls := findClass_of_methodNamed B.named
  have hlocks := B.notSynchronized
  subst hsz
  have hD := hD0.self (sz := s.heap.size)
  generalize hAe : va_A [(qh, .inr (0, [.ref qh1, .ref qh2, .int zh])), (qh1, .inl (cI, 20, .inl gt)), (qh2, .inl (cI, 20, .inl gu))] s.heap.size = A at hD ⊢
  have hA : ∀ q : Nat, s.heap.size ≤ q → A q := fun q h => by rw [← hAe]; exact Or.inr h
  have hP : va_P G vwCl [(qh, .inr (0, [.ref qh1, .ref qh2, .int zh])), (qh1, .inl (cI, 20, .inl gt)), (qh2, .inl (cI, 20, .inl gu))] s.heap := hP
  have hl := lv_entry ([.ref qh, .int p0]) (n := 5) (Nat.le_of_ble_eq_true rfl)
  rw [lg_entry_eq]
  generalize (lg_sl ([.ref qh, .int p0]) ++ List.replicate (5 - (lg_sl ([.ref qh, .int p0])).length) Slot.unset).toArray = ls at hl ⊢
  have hl : lv_has ls 5 [(0, .ref qh), (1, .int p0)] := hl
  have hf18 := hts (.fieldLink RX0 18 "TempoMaps$Holds" "size" "I") (by decide +kernel)
  have hf9 := hts (.fieldLink RX0 9 "TempoMaps$Holds" "ticks" "[I") (by decide +kernel)
  have hf15 := hts (.fieldLink RX0 15 "TempoMaps$Holds" "units" "[I") (by decide +kernel)
  have hiX0 : ∀ w ∈ wsX00, w ∈ wsX0_unitsUpTo := by decide +kernel
  have zi0 : ((0 : Int32)).toInt = 0 := by decide
  have zi1 : ((1 : Int32)).toInt = 1 := by decide
  have zl0 : ((0 : Int64)).toInt = 0 := by decide
  refine w_h (A := A) hP (fun H locs hP hS => ?_)
  have hn20 := hOh.1
  have hrg := hOh.2.1
  refine lv_lconst (v := 0) hx hb dX0_unitsUpTo_0 (by decide) ?_
  refine lv_lstore_n (lv' := [(2, .long 0), (0, .ref qh), (1, .int p0)]) hx hb dX0_unitsUpTo_1 rfl hl (by decide) rfl (fun ls hl => ?_)
  refine lv_iconst (v := 0) hx hb dX0_unitsUpTo_2 (by decide) ?_
  refine lv_istore (lv' := [(4, .int 0), (2, .long 0), (0, .ref qh), (1, .int p0)]) hx hb dX0_unitsUpTo_3  hl (by decide) rfl (fun ls hl => ?_)
  refine W_loop2 (fun (x2 : Int64) (x4 : Int32) ls H locs => va_P G vwCl [(qh, .inr (0, [.ref qh1, .ref qh2, .int zh])), (qh1, .inl (cI, 20, .inl gt)), (qh2, .inl (cI, 20, .inl gu))] H ∧ va_D A [(qh, .inr (0, [.ref qh1, .ref qh2, .int zh])), (qh1, .inl (cI, 20, .inl gt)), (qh2, .inl (cI, 20, .inl gu))] ∧ va_S A s.heap H locs ∧ lv_has ls 5 [(0, .ref qh), (1, .int p0), (2, .long x2), (4, .int x4)] ∧ (0 ≤ x4.toInt ∧ x4.toInt ≤ nh) ∧ (x2.toInt = hsum gt gu p0.toInt x4.toInt.toNat)) (fun (x2 : Int64) (x4 : Int32) => (nh - x4.toInt).toNat) (fun x2 x4 ls H locs hI ih5 => ?_) (0 : Int64) (0 : Int32) ls _ _ ⟨hP, hD, hS, lv_sub hl [2, 3, 1, 0] rfl, (show 0 ≤ (0 : Int32).toInt ∧ (0 : Int32).toInt ≤ nh from by omega), (show (0 : Int64).toInt = hsum gt gu p0.toInt (0 : Int32).toInt.toNat from rfl)⟩
  obtain ⟨hP, hD, hS, hl, i1, i2⟩ := hI
  have hb9 := hsum_rng (t := gt) (u := gu) (x := p0.toInt) x4.toInt.toNat (fun k hk => by have := hrg k (by omega); omega)
  have hst : (x4.toInt + 1).toNat = x4.toInt.toNat + 1 := by omega
  refine lv_iload hx hb dX0_unitsUpTo_5 (lv_at hl 3 rfl) ?_
  refine lv_aload_n hx hb dX0_unitsUpTo_7 rfl (lv_at hl 0 rfl) ?_
  refine va_get (D := G) (ci := 0) (v := .int zh) (C := RX0) (T := TX0) (N := 3) hx hb hts hiX0 hown hK hP 0 rfl rfl 2 (by decide) hf18 (fun _ h9 => h9) rfl dX0_unitsUpTo_8 ?_
  refine lv_icmp_ge (tgt := 42) hx hb dX0_unitsUpTo_11 (by decide) (fun c11 => ?_) (fun c11 => ?_)
  · have k11 : (zh.toInt : Int) ≤ x4.toInt := i_le rfl rfl c11
    refine lv_lload_n hx hb dX0_unitsUpTo_42 rfl (lv_at hl 2 rfl) ?_
    exact W.lret (v := x2) hx hb hr (fun t ht hW => ⟨⟨x2, (), rfl, (by (try dsimp only); exact (by rw [i2, show x4.toInt.toNat = nh by omega])), by rw [ht]; exact hP, hD⟩, hS.F ht⟩) hS.2.2 dX0_unitsUpTo_43
  · have k11 : (x4.toInt : Int) < zh.toInt := i_nle rfl rfl c11
    refine lv_aload_n hx hb dX0_unitsUpTo_14 rfl (lv_at hl 0 rfl) ?_
    refine va_get (D := G) (ci := 0) (v := .ref qh1) (C := RX0) (T := TX0) (N := 3) hx hb hts hiX0 hown hK hP 0 rfl rfl 0 (by decide) hf9 (fun _ h9 => h9) rfl dX0_unitsUpTo_15 ?_
    refine lv_iload hx hb dX0_unitsUpTo_18 (lv_at hl 3 rfl) ?_
    refine va_iald hx hb hK hP 1 0 rfl rfl (vi_in rfl (by omega) (by omega)) dX0_unitsUpTo_20 ?_
    refine lv_topi (fun x20 ex20 => ?_)
    have ex20 : x20 = gt x4.toInt.toNat := by rw [ex20]; exact congrArg _ (cl_nat rfl (by omega))
    have tx20 : x20.toInt = (gt x4.toInt.toNat).toInt := by rw [ex20]
    have hrg_x20 := hrg x4.toInt.toNat (by omega)
    refine lv_iload_n hx hb dX0_unitsUpTo_21 rfl (lv_at hl 1 rfl) ?_
    refine lv_icmp_gt (tgt := 36) hx hb dX0_unitsUpTo_22 (by decide) (fun c22 => ?_) (fun c22 => ?_)
    · have k22 : (p0.toInt : Int) < x20.toInt := i_lt rfl rfl c22
      obtain ⟨x36, ex36⟩ : ∃ y : Int32, y = x4 + 1 := ⟨_, rfl⟩
      have tx36 : x36.toInt = x4.toInt + 1 := by rw [ex36]; exact ti_add rfl (by decide) (by omega) (by omega)
      refine lv_iinc (v := x36) (lv' := [(4, .int x36), (0, .ref qh), (1, .int p0), (2, .long x2)]) hx hb dX0_unitsUpTo_36 hl (k := 3) rfl (by rw [ex36]; rfl) (by decide) rfl (fun ls hl => ?_)
      refine lv_goto (tgt := 5) hx hb dX0_unitsUpTo_39 (by decide) ?_
      exact ih5 x2 x36 ls _ _ ⟨hP, hD, hS, lv_sub hl [1, 2, 3, 0] rfl, (show 0 ≤ x36.toInt ∧ x36.toInt ≤ nh from by omega), (show x2.toInt = hsum gt gu p0.toInt x36.toInt.toNat from by rw [show x36.toInt.toNat = x4.toInt.toNat + 1 by omega]; simp only [hsum]; (first | rw [if_pos (by omega)] | rw [if_neg (by omega)]); omega)⟩ (show (nh - x36.toInt).toNat < (nh - x4.toInt).toNat from by omega)
    · have k22 : (x20.toInt : Int) ≤ p0.toInt := i_nlt rfl rfl c22
      refine lv_lload_n hx hb dX0_unitsUpTo_25 rfl (lv_at hl 2 rfl) ?_
      refine lv_aload_n hx hb dX0_unitsUpTo_26 rfl (lv_at hl 0 rfl) ?_
      refine va_get (D := G) (ci := 0) (v := .ref qh2) (C := RX0) (T := TX0) (N := 3) hx hb hts hiX0 hown hK hP 0 rfl rfl 1 (by decide) hf15 (fun _ h9 => h9) rfl dX0_unitsUpTo_27 ?_
      refine lv_iload hx hb dX0_unitsUpTo_30 (lv_at hl 3 rfl) ?_
      refine va_iald hx hb hK hP 2 0 rfl rfl (vi_in rfl (by omega) (by omega)) dX0_unitsUpTo_32 ?_
      refine lv_topi (fun x32 ex32 => ?_)
      have ex32 : x32 = gu x4.toInt.toNat := by rw [ex32]; exact congrArg _ (cl_nat rfl (by omega))
      have tx32 : x32.toInt = (gu x4.toInt.toNat).toInt := by rw [ex32]
      have hrg_x32 := hrg x4.toInt.toNat (by omega)
      refine lv_i2l hx hb dX0_unitsUpTo_33 rfl ?_
      refine lv_topl (fun x33 ex33 => ?_)
      have tx33 : x33.toInt = x32.toInt := by rw [ex33]; exact tc_i2l rfl
      refine lv_ladd hx hb dX0_unitsUpTo_34 ?_
      refine lv_topl (fun x34 ex34 => ?_)
      have tx34 : x34.toInt = x2.toInt + x32.toInt := by rw [ex34]; exact tl_add rfl tx33 (by omega) (by omega)
      refine lv_lstore_n (lv' := [(2, .long x34), (0, .ref qh), (1, .int p0), (4, .int x4)]) hx hb dX0_unitsUpTo_35 rfl hl (by decide) rfl (fun ls hl => ?_)
      obtain ⟨x36_2, ex36_2⟩ : ∃ y : Int32, y = x4 + 1 := ⟨_, rfl⟩
      have tx36_2 : x36_2.toInt = x4.toInt + 1 := by rw [ex36_2]; exact ti_add rfl (by decide) (by omega) (by omega)
      refine lv_iinc (v := x36_2) (lv' := [(4, .int x36_2), (2, .long x34), (0, .ref qh), (1, .int p0)]) hx hb dX0_unitsUpTo_36 hl (k := 3) rfl (by rw [ex36_2]; rfl) (by decide) rfl (fun ls hl => ?_)
      refine lv_goto (tgt := 5) hx hb dX0_unitsUpTo_39 (by decide) ?_
      exact ih5 x34 x36_2 ls _ _ ⟨hP, hD, hS, lv_sub hl [2, 3, 1, 0] rfl, (show 0 ≤ x36_2.toInt ∧ x36_2.toInt ≤ nh from by omega), (show x34.toInt = hsum gt gu p0.toInt x36_2.toInt.toNat from by rw [show x36_2.toInt.toNat = x4.toInt.toNat + 1 by omega]; simp only [hsum]; (first | rw [if_pos (by omega)] | rw [if_neg (by omega)]); omega)⟩ (show (nh - x36_2.toInt).toNat < (nh - x4.toInt).toNat from by omega)

set_option maxHeartbeats 1000000 in
set_option maxRecDepth 100000 in
theorem ct_X3_sumOfQuotients (l : Launch) (G : va_G) (cI cL : ClassId) (sz : Nat) (p0 : Int32) (p1 : Int32) (p2 : Int32) (hp0 : 0 ≤ p0.toInt ∧ p0.toInt ≤ p2.toInt) (hp2 : p2.toInt ≤ 2000) (hp1 : -1000000 ≤ p1.toInt ∧ p1.toInt ≤ 1000000) : Met l yX3_sumOfQuotients wsX3_sumOfQuotients ({ frames := 1, cells := 0, slots := 0, locals := 25 }) (va_Pc [.int p0, .int p1, .int p2] (pre0 G cI cL ([] : va_W) sz)) (va_Ql (fun (r : Int64) (u : Unit) => r.toInt = fs p1.toInt 0 p2.toInt p0.toInt.toNat) (fun (u : Unit) t => va_P G vwCl ([] : va_W) t.heap ∧ va_D (va_A ([] : va_W) sz) ([] : va_W)) (va_A ([] : va_W) sz)) 0 0 (va_A ([] : va_W) sz) := by
  refine Met.ofW (cc := cX3_sumOfQuotients) (maxL := 18) (ret := (some .long)) (by decide) rfl ?_
  intro p e s m args below meth c s₁ B hml hv
  obtain ⟨rfl, hsz, hP, hK, hD0, hN⟩ := hv
  have hx := B.exec
  have hb := B.bytes
  have hr := B.returns
  have hts := atoms_spec (ws := wsX3_sumOfQuotients) B.pre
  have hown : s.vm.findClass RX3 = some m.cls := findClass_of_methodNamed B.named
  have hlocks := B.notSynchronized
  subst hsz
  have hD := hD0.self (sz := s.heap.size)
  generalize hAe : va_A ([] : va_W) s.heap.size = A at hD ⊢
  have hA : ∀ q : Nat, s.heap.size ≤ q → A q := fun q h => by rw [← hAe]; exact Or.inr h
  have hP : va_P G vwCl ([] : va_W) s.heap := hP
  have hl := lv_entry ([.int p0, .int p1, .int p2]) (n := 18) (Nat.le_of_ble_eq_true rfl)
  rw [lg_entry_eq]
  generalize (lg_sl ([.int p0, .int p1, .int p2]) ++ List.replicate (18 - (lg_sl ([.int p0, .int p1, .int p2])).length) Slot.unset).toArray = ls at hl ⊢
  have hl : lv_has ls 18 [(0, .int p0), (1, .int p1), (2, .int p2)] := hl
  have zi0 : ((0 : Int32)).toInt = 0 := by decide
  have zi1 : ((1 : Int32)).toInt = 1 := by decide
  have zi200 : ((200 : Int32)).toInt = 200 := by decide
  have zl0 : ((0 : Int64)).toInt = 0 := by decide
  have zl1 : ((1 : Int64)).toInt = 1 := by decide
  have zl2 : ((2 : Int64)).toInt = 2 := by decide
  refine w_h (A := A) hP (fun H locs hP hS => ?_)
  refine lv_iload_n hx hb dX3_sumOfQuotients_0 rfl (lv_at hl 0 rfl) ?_
  refine lv_i2l hx hb dX3_sumOfQuotients_1 rfl ?_
  refine lv_topl (fun x1 ex1 => ?_)
  have tx1 : x1.toInt = p0.toInt := by rw [ex1]; exact tc_i2l rfl
  refine lv_lstore_n (lv' := [(3, .long x1), (0, .int p0), (1, .int p1), (2, .int p2)]) hx hb dX3_sumOfQuotients_2 rfl hl (by decide) rfl (fun ls hl => ?_)
  refine lv_iload_n hx hb dX3_sumOfQuotients_3 rfl (lv_at hl 2 rfl) ?_
  refine lv_i2l hx hb dX3_sumOfQuotients_4 rfl ?_
  refine lv_topl (fun x4 ex4 => ?_)
  have tx4 : x4.toInt = p1.toInt := by rw [ex4]; exact tc_i2l rfl
  refine lv_lstore (lv' := [(5, .long x4), (3, .long x1), (0, .int p0), (1, .int p1), (2, .int p2)]) hx hb dX3_sumOfQuotients_5  hl (by decide) rfl (fun ls hl => ?_)
  refine lv_iload_n hx hb dX3_sumOfQuotients_7 rfl (lv_at hl 4 rfl) ?_
  refine lv_i2l hx hb dX3_sumOfQuotients_8 rfl ?_
  refine lv_topl (fun x8 ex8 => ?_)
  have tx8 : x8.toInt = p2.toInt := by rw [ex8]; exact tc_i2l rfl
  refine lv_lstore (lv' := [(7, .long x8), (5, .long x4), (3, .long x1), (0, .int p0), (1, .int p1), (2, .int p2)]) hx hb dX3_sumOfQuotients_9  hl (by decide) rfl (fun ls hl => ?_)
  refine lv_lconst (v := 0) hx hb dX3_sumOfQuotients_11 (by decide) ?_
  refine lv_lstore (lv' := [(9, .long 0), (7, .long x8), (5, .long x4), (3, .long x1), (0, .int p0), (1, .int p1), (2, .int p2)]) hx hb dX3_sumOfQuotients_12  hl (by decide) rfl (fun ls hl => ?_)
  refine lv_lconst (v := 0) hx hb dX3_sumOfQuotients_14 (by decide) ?_
  refine lv_lstore (lv' := [(11, .long 0), (9, .long 0), (7, .long x8), (5, .long x4), (3, .long x1), (0, .int p0), (1, .int p1), (2, .int p2)]) hx hb dX3_sumOfQuotients_15  hl (by decide) rfl (fun ls hl => ?_)
  refine lv_iconst (v := 0) hx hb dX3_sumOfQuotients_17 (by decide) ?_
  refine lv_istore (lv' := [(13, .int 0), (11, .long 0), (9, .long 0), (7, .long x8), (5, .long x4), (3, .long x1), (0, .int p0), (1, .int p1), (2, .int p2)]) hx hb dX3_sumOfQuotients_18  hl (by decide) rfl (fun ls hl => ?_)
  refine W_loop6 (fun (x3 : Int64) (x5 : Int64) (x7 : Int64) (x9 : Int64) (x11 : Int64) (x13 : Int32) ls H locs => va_P G vwCl ([] : va_W) H ∧ va_D A ([] : va_W) ∧ va_S A s.heap H locs ∧ lv_has ls 18 [(0, .int p0), (1, .int p1), (2, .int p2), (3, .long x3), (5, .long x5), (7, .long x7), (9, .long x9), (11, .long x11), (13, .int x13)] ∧ (0 ≤ x13.toInt ∧ x13.toInt ≤ 200) ∧ (0 ≤ x3.toInt ∧ x3.toInt ≤ 2000) ∧ (-1000000 ≤ x5.toInt ∧ x5.toInt ≤ 1000000) ∧ (0 ≤ x7.toInt ∧ x7.toInt ≤ 2000) ∧ (0 ≤ x9.toInt ∧ x9.toInt ≤ 2000) ∧ (x7.toInt = 0 → x3.toInt = 0) ∧ (-(5000000000000 * x13.toInt) ≤ x11.toInt ∧ x11.toInt ≤ 5000000000000 * x13.toInt) ∧ (x13.toInt.toNat = 0 ∨ (x7.toInt < x5.toInt ∧ x7.toInt * x5.toInt * 2 ^ (x13.toInt.toNat - 1) ≤ 2 ^ 180)) ∧ (x11.toInt + fs x5.toInt x9.toInt x7.toInt x3.toInt.toNat = fs p1.toInt 0 p2.toInt p0.toInt.toNat)) (fun (x3 : Int64) (x5 : Int64) (x7 : Int64) (x9 : Int64) (x11 : Int64) (x13 : Int32) => (200 - x13.toInt).toNat) (fun x3 x5 x7 x9 x11 x13 ls H locs hI ih20 => ?_) x1 x4 x8 (0 : Int64) (0 : Int64) (0 : Int32) ls _ _ ⟨hP, hD, hS, lv_sub hl [6, 7, 8, 5, 4, 3, 2, 1, 0] rfl, (show 0 ≤ (0 : Int32).toInt ∧ (0 : Int32).toInt ≤ 200 from by omega), (show 0 ≤ x1.toInt ∧ x1.toInt ≤ 2000 from by omega), (show -1000000 ≤ x4.toInt ∧ x4.toInt ≤ 1000000 from by omega), (show 0 ≤ x8.toInt ∧ x8.toInt ≤ 2000 from by omega), (show 0 ≤ (0 : Int64).toInt ∧ (0 : Int64).toInt ≤ 2000 from by omega), (show x8.toInt = 0 → x1.toInt = 0 from by omega), (show -(5000000000000 * (0 : Int32).toInt) ≤ (0 : Int64).toInt ∧ (0 : Int64).toInt ≤ 5000000000000 * (0 : Int32).toInt from by omega), (show (0 : Int32).toInt.toNat = 0 ∨ (x8.toInt < x4.toInt ∧ x8.toInt * x4.toInt * 2 ^ ((0 : Int32).toInt.toNat - 1) ≤ 2 ^ 180) from Or.inl (by omega)), (show (0 : Int64).toInt + fs x4.toInt (0 : Int64).toInt x8.toInt x1.toInt.toNat = fs p1.toInt 0 p2.toInt p0.toInt.toNat from by rw [zl0, Int.zero_add, tx8, tx4, tx1])⟩
  obtain ⟨hP, hD, hS, hl, i1, i2, i3, i4, i5, i6, i7, i8, i9⟩ := hI
  refine lv_iload hx hb dX3_sumOfQuotients_20 (lv_at hl 8 rfl) ?_
  refine lv_sipush (v := 200) hx hb dX3_sumOfQuotients_22 (by decide) ?_
  refine lv_icmp_ge (tgt := 135) hx hb dX3_sumOfQuotients_25 (by decide) (fun c25 => ?_) (fun c25 => ?_)
  · have k25 : (200 : Int) ≤ x13.toInt := i_le (show ((200 : Int32)).toInt = 200 by decide) rfl c25
    have fr : fs x5.toInt x9.toInt x7.toInt x3.toInt.toNat = 0 := by rw [i6 (eu_end i8 (by omega) i4.1)]; rfl
    refine lv_lload hx hb dX3_sumOfQuotients_135 (lv_at hl 7 rfl) ?_
    exact W.lret (v := x11) hx hb hr (fun t ht hW => ⟨⟨x11, (), rfl, (by (try dsimp only); exact (by rw [← i9, fr]; omega)), by rw [ht]; exact hP, hD⟩, hS.F ht⟩) hS.2.2 dX3_sumOfQuotients_137
  · have k25 : (x13.toInt : Int) < 200 := i_nle (show ((200 : Int32)).toInt = 200 by decide) rfl c25
    refine lv_lload hx hb dX3_sumOfQuotients_28 (lv_at hl 5 rfl) ?_
    refine lv_lconst (v := 0) hx hb dX3_sumOfQuotients_30 (by decide) ?_
    refine W.lcmp hx hb dX3_sumOfQuotients_31 ?_
    refine lv_if_le (tgt := 135) hx hb dX3_sumOfQuotients_32 (by decide) (fun c32 => ?_) (fun c32 => ?_)
    · have k32 : (x7.toInt : Int) ≤ 0 := l_le rfl (show ((0 : Int64)).toInt = 0 by decide) ((lg_cmp_le _ _).mp c32)
      have fr : fs x5.toInt x9.toInt x7.toInt x3.toInt.toNat = 0 := by rw [i6 (by omega)]; rfl
      refine lv_lload hx hb dX3_sumOfQuotients_135 (lv_at hl 7 rfl) ?_
      exact W.lret (v := x11) hx hb hr (fun t ht hW => ⟨⟨x11, (), rfl, (by (try dsimp only); exact (by rw [← i9, fr]; omega)), by rw [ht]; exact hP, hD⟩, hS.F ht⟩) hS.2.2 dX3_sumOfQuotients_137
    · have k32 : (0 : Int) < x7.toInt := l_nle rfl (show ((0 : Int64)).toInt = 0 by decide) (fun h9 => c32 ((lg_cmp_le _ _).mpr h9))
      refine lv_lload_n hx hb dX3_sumOfQuotients_35 rfl (lv_at hl 3 rfl) ?_
      refine lv_lconst (v := 0) hx hb dX3_sumOfQuotients_36 (by decide) ?_
      refine W.lcmp hx hb dX3_sumOfQuotients_37 ?_
      refine lv_if_le (tgt := 135) hx hb dX3_sumOfQuotients_38 (by decide) (fun c38 => ?_) (fun c38 => ?_)
      · have k38 : (x3.toInt : Int) ≤ 0 := l_le rfl (show ((0 : Int64)).toInt = 0 by decide) ((lg_cmp_le _ _).mp c38)
        have fr : fs x5.toInt x9.toInt x7.toInt x3.toInt.toNat = 0 := by rw [show x3.toInt.toNat = 0 by omega]; rfl
        refine lv_lload hx hb dX3_sumOfQuotients_135 (lv_at hl 7 rfl) ?_
        exact W.lret (v := x11) hx hb hr (fun t ht hW => ⟨⟨x11, (), rfl, (by (try dsimp only); exact (by rw [← i9, fr]; omega)), by rw [ht]; exact hP, hD⟩, hS.F ht⟩) hS.2.2 dX3_sumOfQuotients_137
      · have k38 : (0 : Int) < x3.toInt := l_nle rfl (show ((0 : Int64)).toInt = 0 by decide) (fun h9 => c38 ((lg_cmp_le _ _).mpr h9))
        refine lv_lload hx hb dX3_sumOfQuotients_41 (lv_at hl 7 rfl) ?_
        refine lv_lload_n hx hb dX3_sumOfQuotients_43 rfl (lv_at hl 3 rfl) ?_
        refine lv_lload_n hx hb dX3_sumOfQuotients_44 rfl (lv_at hl 3 rfl) ?_
        refine lv_lconst (v := 1) hx hb dX3_sumOfQuotients_45 (by decide) ?_
        refine lv_lsub hx hb dX3_sumOfQuotients_46 ?_
        refine lv_topl (fun x46 ex46 => ?_)
        have tx46 : x46.toInt = x3.toInt - 1 := by rw [ex46]; exact tl_sub rfl (show ((1 : Int64)).toInt = 1 by decide) (by omega) (by omega)
        have b47 := mul_bnd (show 0 ≤ x3.toInt ∧ x3.toInt ≤ 2000 by omega) (show 0 ≤ x46.toInt ∧ x46.toInt ≤ 2000 by omega)
        refine lv_lmul hx hb dX3_sumOfQuotients_47 ?_
        refine lv_topl (fun x47 ex47 => ?_)
        have tx47 : x47.toInt = x3.toInt * x46.toInt := by rw [ex47]; exact tl_mul rfl rfl (by omega) (by omega)
        refine lv_ldc2 (v := 2) hx hb hown (hts (.constantLong RX3 115 2) (by decide +kernel)) dX3_sumOfQuotients_48 ?_
        refine lv_ldiv hx hb dX3_sumOfQuotients_51 (l_ne0 (show ((2 : Int64)).toInt = 2 by decide) (by omega)) ?_
        refine lv_topl (fun x51 ex51 => ?_)
        have tx51 : x51.toInt = x47.toInt / 2 := by rw [ex51]; exact tl_div rfl (show ((2 : Int64)).toInt = 2 by decide) (by omega) (by omega)
        refine lv_lload hx hb dX3_sumOfQuotients_52 (lv_at hl 4 rfl) ?_
        refine lv_lload hx hb dX3_sumOfQuotients_54 (lv_at hl 5 rfl) ?_
        have hPc := hP.sub (ws' := ([] : va_W)) [] rfl
        have hDc := hD.sub (ws' := ([] : va_W)) [] (by decide) rfl
        have hcc := (ct_J9_floorDiv_f86c9 l G cI cL H.size x5 x7 (by omega) (by omega))
        refine ro_calll (va_runS (As := [.long x5, .long x7]) (rest := [.long x51, .long x11]) ⟨hx, hb, hml, hown, hts⟩ hcc (va_cwS 2 hts gX3_sumOfQuotients_J9_floorDiv_f86c9 rfl rfl rfl (by decide +kernel) ⟨Nat.le_of_ble_eq_true rfl, Nat.le_of_ble_eq_true rfl⟩) ⟨pre_blind, pre_pass hK hN hPc hDc⟩ rfl rfl hl.1 rfl (lv_room (Nat.le_of_ble_eq_true rfl)) dX3_sumOfQuotients_56 ⟨Nat.le_of_ble_eq_true rfl, Nat.le_of_ble_eq_true rfl⟩) hP hD hS hA [] rfl (fun r56 H locs hw56 hP hS => ?_)
        try dsimp only at hw56
        have b58 := div_abs (a := x5.toInt) (b := x7.toInt) (A := 1000000) (by omega) (by omega)
        have b59a := mul_abs (show -1000000 ≤ r56.toInt ∧ r56.toInt ≤ 1000000 by omega) (show 0 ≤ x51.toInt ∧ x51.toInt ≤ 4000000 by omega)
        have b59c : r56.toInt * x51.toInt = x51.toInt * r56.toInt := Int.mul_comm _ _
        refine lv_lmul hx hb dX3_sumOfQuotients_59 ?_
        refine lv_topl (fun x59 ex59 => ?_)
        have tx59 : x59.toInt = x51.toInt * r56.toInt := by rw [ex59]; exact tl_mul rfl rfl (by omega) (by omega)
        refine lv_ladd hx hb dX3_sumOfQuotients_60 ?_
        refine lv_topl (fun x60 ex60 => ?_)
        have tx60 : x60.toInt = x11.toInt + x59.toInt := by rw [ex60]; exact tl_add rfl rfl (by omega) (by omega)
        refine lv_lstore (lv' := [(11, .long x60), (0, .int p0), (1, .int p1), (2, .int p2), (3, .long x3), (5, .long x5), (7, .long x7), (9, .long x9), (13, .int x13)]) hx hb dX3_sumOfQuotients_61  hl (by decide) rfl (fun ls hl => ?_)
        refine lv_lload hx hb dX3_sumOfQuotients_63 (lv_at hl 0 rfl) ?_
        refine lv_lload_n hx hb dX3_sumOfQuotients_65 rfl (lv_at hl 4 rfl) ?_
        refine lv_lload hx hb dX3_sumOfQuotients_66 (lv_at hl 7 rfl) ?_
        refine lv_lload hx hb dX3_sumOfQuotients_68 (lv_at hl 6 rfl) ?_
        have hPc := hP.sub (ws' := ([] : va_W)) [] rfl
        have hDc := hD.sub (ws' := ([] : va_W)) [] (by decide) rfl
        have hcc := (ct_J9_floorDiv_f86c9 l G cI cL H.size x9 x7 (by omega) (by omega))
        refine ro_calll (va_runS (As := [.long x9, .long x7]) (rest := [.long x3, .long x60]) ⟨hx, hb, hml, hown, hts⟩ hcc (va_cwS 2 hts gX3_sumOfQuotients_J9_floorDiv_f86c9 rfl rfl rfl (by decide +kernel) ⟨Nat.le_of_ble_eq_true rfl, Nat.le_of_ble_eq_true rfl⟩) ⟨pre_blind, pre_pass hK hN hPc hDc⟩ rfl rfl hl.1 rfl (lv_room (Nat.le_of_ble_eq_true rfl)) dX3_sumOfQuotients_70 ⟨Nat.le_of_ble_eq_true rfl, Nat.le_of_ble_eq_true rfl⟩) hP hD hS hA [] rfl (fun r70 H locs hw70 hP hS => ?_)
        try dsimp only at hw70
        have b72 := div_abs (a := x9.toInt) (b := x7.toInt) (A := 2000) (by omega) (by omega)
        have b72p : 0 ≤ x9.toInt / x7.toInt := Int.ediv_nonneg (by omega) (by omega)
        have b73 := mul_bnd (show 0 ≤ x3.toInt ∧ x3.toInt ≤ 2000 by omega) (show 0 ≤ r70.toInt ∧ r70.toInt ≤ 2000 by omega)
        refine lv_lmul hx hb dX3_sumOfQuotients_73 ?_
        refine lv_topl (fun x73 ex73 => ?_)
        have tx73 : x73.toInt = x3.toInt * r70.toInt := by rw [ex73]; exact tl_mul rfl rfl (by omega) (by omega)
        refine lv_ladd hx hb dX3_sumOfQuotients_74 ?_
        refine lv_topl (fun x74 ex74 => ?_)
        have tx74 : x74.toInt = x60.toInt + x73.toInt := by rw [ex74]; exact tl_add rfl rfl (by omega) (by omega)
        refine lv_lstore (lv' := [(11, .long x74), (0, .int p0), (1, .int p1), (2, .int p2), (3, .long x3), (5, .long x5), (7, .long x7), (9, .long x9), (13, .int x13)]) hx hb dX3_sumOfQuotients_75  hl (by decide) rfl (fun ls hl => ?_)
        refine lv_lload hx hb dX3_sumOfQuotients_77 (lv_at hl 5 rfl) ?_
        refine lv_lload hx hb dX3_sumOfQuotients_79 (lv_at hl 6 rfl) ?_
        have hPc := hP.sub (ws' := ([] : va_W)) [] rfl
        have hDc := hD.sub (ws' := ([] : va_W)) [] (by decide) rfl
        have hcc := (ct_J9_floorMod_f86c9 l G cI cL H.size x5 x7 (by omega) (by omega))
        refine ro_calll (va_runS (As := [.long x5, .long x7]) (rest := []) ⟨hx, hb, hml, hown, hts⟩ hcc (va_cwS 2 hts gX3_sumOfQuotients_J9_floorMod_f86c9 rfl rfl rfl (by decide +kernel) ⟨Nat.le_of_ble_eq_true rfl, Nat.le_of_ble_eq_true rfl⟩) ⟨pre_blind, pre_pass hK hN hPc hDc⟩ rfl rfl hl.1 rfl (lv_room (Nat.le_of_ble_eq_true rfl)) dX3_sumOfQuotients_81 ⟨Nat.le_of_ble_eq_true rfl, Nat.le_of_ble_eq_true rfl⟩) hP hD hS hA [] rfl (fun r81 H locs hw81 hP hS => ?_)
        try dsimp only at hw81
        refine lv_lstore (lv' := [(5, .long r81), (11, .long x74), (0, .int p0), (1, .int p1), (2, .int p2), (3, .long x3), (7, .long x7), (9, .long x9), (13, .int x13)]) hx hb dX3_sumOfQuotients_84  hl (by decide) rfl (fun ls hl => ?_)
        refine lv_lload hx hb dX3_sumOfQuotients_86 (lv_at hl 7 rfl) ?_
        refine lv_lload hx hb dX3_sumOfQuotients_88 (lv_at hl 6 rfl) ?_
        have hPc := hP.sub (ws' := ([] : va_W)) [] rfl
        have hDc := hD.sub (ws' := ([] : va_W)) [] (by decide) rfl
        have hcc := (ct_J9_floorMod_f86c9 l G cI cL H.size x9 x7 (by omega) (by omega))
        refine ro_calll (va_runS (As := [.long x9, .long x7]) (rest := []) ⟨hx, hb, hml, hown, hts⟩ hcc (va_cwS 2 hts gX3_sumOfQuotients_J9_floorMod_f86c9 rfl rfl rfl (by decide +kernel) ⟨Nat.le_of_ble_eq_true rfl, Nat.le_of_ble_eq_true rfl⟩) ⟨pre_blind, pre_pass hK hN hPc hDc⟩ rfl rfl hl.1 rfl (lv_room (Nat.le_of_ble_eq_true rfl)) dX3_sumOfQuotients_90 ⟨Nat.le_of_ble_eq_true rfl, Nat.le_of_ble_eq_true rfl⟩) hP hD hS hA [] rfl (fun r90 H locs hw90 hP hS => ?_)
        try dsimp only at hw90
        refine lv_lstore (lv' := [(9, .long r90), (5, .long r81), (11, .long x74), (0, .int p0), (1, .int p1), (2, .int p2), (3, .long x3), (7, .long x7), (13, .int x13)]) hx hb dX3_sumOfQuotients_93  hl (by decide) rfl (fun ls hl => ?_)
        refine lv_lload hx hb dX3_sumOfQuotients_95 (lv_at hl 1 rfl) ?_
        refine lv_lload_n hx hb dX3_sumOfQuotients_97 rfl (lv_at hl 6 rfl) ?_
        have b97 : 0 ≤ x5.toInt % x7.toInt ∧ x5.toInt % x7.toInt < x7.toInt := ⟨Int.emod_nonneg _ (by omega), Int.emod_lt_of_pos _ (by omega)⟩
        have b96 : 0 ≤ x9.toInt % x7.toInt ∧ x9.toInt % x7.toInt < x7.toInt := ⟨Int.emod_nonneg _ (by omega), Int.emod_lt_of_pos _ (by omega)⟩
        have b98 := mul_bnd (show 0 ≤ r81.toInt ∧ r81.toInt ≤ 2000 by omega) (show 0 ≤ x3.toInt ∧ x3.toInt ≤ 2000 by omega)
        refine lv_lmul hx hb dX3_sumOfQuotients_98 ?_
        refine lv_topl (fun x98 ex98 => ?_)
        have tx98 : x98.toInt = r81.toInt * x3.toInt := by rw [ex98]; exact tl_mul rfl rfl (by omega) (by omega)
        refine lv_lload hx hb dX3_sumOfQuotients_99 (lv_at hl 0 rfl) ?_
        refine lv_ladd hx hb dX3_sumOfQuotients_101 ?_
        refine lv_topl (fun x101 ex101 => ?_)
        have tx101 : x101.toInt = x98.toInt + r90.toInt := by rw [ex101]; exact tl_add rfl rfl (by omega) (by omega)
        refine lv_lstore (lv' := [(14, .long x101), (9, .long r90), (5, .long r81), (11, .long x74), (0, .int p0), (1, .int p1), (2, .int p2), (3, .long x3), (7, .long x7), (13, .int x13)]) hx hb dX3_sumOfQuotients_102  hl (by decide) rfl (fun ls hl => ?_)
        refine lv_lload hx hb dX3_sumOfQuotients_104 (lv_at hl 0 rfl) ?_
        refine lv_lload hx hb dX3_sumOfQuotients_106 (lv_at hl 8 rfl) ?_
        refine lv_ldiv hx hb dX3_sumOfQuotients_108 (l_ne0 rfl (by omega)) ?_
        refine lv_topl (fun x108 ex108 => ?_)
        have tx108 : x108.toInt = x101.toInt / x7.toInt := by rw [ex108]; exact tl_div rfl rfl (by omega) (by omega)
        refine lv_lstore_n (lv' := [(3, .long x108), (14, .long x101), (9, .long r90), (5, .long r81), (11, .long x74), (0, .int p0), (1, .int p1), (2, .int p2), (7, .long x7), (13, .int x13)]) hx hb dX3_sumOfQuotients_109 rfl hl (by decide) rfl (fun ls hl => ?_)
        refine lv_lload hx hb dX3_sumOfQuotients_110 (lv_at hl 1 rfl) ?_
        refine lv_lload hx hb dX3_sumOfQuotients_112 (lv_at hl 8 rfl) ?_
        refine lv_lrem hx hb dX3_sumOfQuotients_114 (l_ne0 rfl (by omega)) ?_
        refine lv_topl (fun x114 ex114 => ?_)
        have tx114 : x114.toInt = x101.toInt % x7.toInt := by rw [ex114]; exact tl_rem rfl rfl (by omega) (by omega)
        refine lv_lstore (lv' := [(9, .long x114), (3, .long x108), (14, .long x101), (5, .long r81), (11, .long x74), (0, .int p0), (1, .int p1), (2, .int p2), (7, .long x7), (13, .int x13)]) hx hb dX3_sumOfQuotients_115  hl (by decide) rfl (fun ls hl => ?_)
        refine lv_lload hx hb dX3_sumOfQuotients_117 (lv_at hl 8 rfl) ?_
        refine lv_lstore (lv' := [(16, .long x7), (9, .long x114), (3, .long x108), (14, .long x101), (5, .long r81), (11, .long x74), (0, .int p0), (1, .int p1), (2, .int p2), (7, .long x7), (13, .int x13)]) hx hb dX3_sumOfQuotients_119  hl (by decide) rfl (fun ls hl => ?_)
        refine lv_lload hx hb dX3_sumOfQuotients_121 (lv_at hl 4 rfl) ?_
        refine lv_lstore (lv' := [(7, .long r81), (16, .long x7), (9, .long x114), (3, .long x108), (14, .long x101), (5, .long r81), (11, .long x74), (0, .int p0), (1, .int p1), (2, .int p2), (13, .int x13)]) hx hb dX3_sumOfQuotients_123  hl (by decide) rfl (fun ls hl => ?_)
        refine lv_lload hx hb dX3_sumOfQuotients_125 (lv_at hl 1 rfl) ?_
        refine lv_lstore (lv' := [(5, .long x7), (7, .long r81), (16, .long x7), (9, .long x114), (3, .long x108), (14, .long x101), (11, .long x74), (0, .int p0), (1, .int p1), (2, .int p2), (13, .int x13)]) hx hb dX3_sumOfQuotients_127  hl (by decide) rfl (fun ls hl => ?_)
        obtain ⟨x129, ex129⟩ : ∃ y : Int32, y = x13 + 1 := ⟨_, rfl⟩
        have tx129 : x129.toInt = x13.toInt + 1 := by rw [ex129]; exact ti_add rfl (by decide) (by omega) (by omega)
        refine lv_iinc (v := x129) (lv' := [(13, .int x129), (5, .long x7), (7, .long r81), (16, .long x7), (9, .long x114), (3, .long x108), (14, .long x101), (11, .long x74), (0, .int p0), (1, .int p1), (2, .int p2)]) hx hb dX3_sumOfQuotients_129 hl (k := 10) rfl (by rw [ex129]; rfl) (by decide) rfl (fun ls hl => ?_)
        refine lv_goto (tgt := 20) hx hb dX3_sumOfQuotients_132 (by decide) ?_
        have tl := top_le (a := x5.toInt) (b := x9.toInt) (m := x7.toInt) (n := x3.toInt) (by omega) (by omega)
        have ev := eu_inv (up := x5.toInt) i8 (by omega) (by omega)
        have es := eu_step (a := x5.toInt) (b := x9.toInt) (m := x7.toInt) (by omega) x3.toInt.toNat
        rw [show ((x3.toInt.toNat : Nat) : Int) = x3.toInt by omega] at es
        have e51 : x51.toInt = sI x3.toInt.toNat := by have := sI_two x3.toInt.toNat; rw [show ((x3.toInt.toNat : Nat) : Int) = x3.toInt by omega] at this; rw [tx51, tx47, tx46, ← this]; omega
        have e101 : x101.toInt = x5.toInt % x7.toInt * x3.toInt + x9.toInt % x7.toInt := by rw [tx101, tx98, hw81, hw90]
        have e108 : x108.toInt = (x5.toInt % x7.toInt * x3.toInt + x9.toInt % x7.toInt) / x7.toInt := by rw [tx108, e101]
        have e114 : x114.toInt = (x5.toInt % x7.toInt * x3.toInt + x9.toInt % x7.toInt) % x7.toInt := by rw [tx114, e101]
        have b114 : 0 ≤ x114.toInt ∧ x114.toInt < x7.toInt := by rw [tx114]; exact ⟨Int.emod_nonneg _ (by omega), Int.emod_lt_of_pos _ (by omega)⟩
        exact ih20 x108 x7 r81 x114 x74 x129 ls _ _ ⟨hP, hD, hS, lv_sub hl [8, 9, 10, 5, 1, 2, 4, 7, 0] rfl, (show 0 ≤ x129.toInt ∧ x129.toInt ≤ 200 from by omega), (show 0 ≤ x108.toInt ∧ x108.toInt ≤ 2000 from by omega), (show -1000000 ≤ x7.toInt ∧ x7.toInt ≤ 1000000 from by omega), (show 0 ≤ r81.toInt ∧ r81.toInt ≤ 2000 from by omega), (show 0 ≤ x114.toInt ∧ x114.toInt ≤ 2000 from by omega), (show r81.toInt = 0 → x108.toInt = 0 from fun h => by rw [e108]; exact tl.2.2.2 (by omega)), (show -(5000000000000 * x129.toInt) ≤ x74.toInt ∧ x74.toInt ≤ 5000000000000 * x129.toInt from by omega), (show x129.toInt.toNat = 0 ∨ (r81.toInt < x7.toInt ∧ r81.toInt * x7.toInt * 2 ^ (x129.toInt.toNat - 1) ≤ 2 ^ 180) from Or.inr (by rw [hw81, show x129.toInt.toNat = x13.toInt.toNat + 1 by omega]; exact ev)), (show x74.toInt + fs x7.toInt x114.toInt r81.toInt x108.toInt.toNat = fs p1.toInt 0 p2.toInt p0.toInt.toNat from by rw [← i9, es, tx74, tx60, tx73, tx59, e51, hw56, hw70, hw81, e114, e108, Int.mul_comm (x5.toInt / x7.toInt)]; omega)⟩ (show (200 - x129.toInt).toNat < (200 - x13.toInt).toNat from by omega)

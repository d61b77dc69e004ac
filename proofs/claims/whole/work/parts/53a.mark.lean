set_option maxHeartbeats 1000000 in
set_option maxRecDepth 100000 in
theorem ct_X4_mark (l : Launch) (G : va_G) (cI cL : ClassId) (sz : Nat) (qy : Nat) (qy1 : Nat) (qy2 : Nat) (qy3 : Nat) (qy4 : Nat) (qy5 : Nat) (qy6 : Nat) (qy7 : Nat) (zM : Int32) (zH : Int32) (zT : Int32) (bg : Int64) (Mt : Nat → Int32) (Ms : Nat → Int32) (Mf : Nat → Int32) (Ml : Nat → Int32) (Ht : Nat → Int32) (Hu : Nat → Int32) (Tp : Nat → Int64) (p0 : Int32) (p1 : Int32) (nm : Nat) (hnM : zM.toInt = nm) (hOM : okM nm Mt Ms Mf Ml) (nh : Nat) (hnH : zH.toInt = nh) (hOH : okH nh Ht Hu) (nt : Nat) (hnT : zT.toInt = nt) (hOT : okT nt Tp) (hex : ∀ i : Nat, i < nm → ∃ k : Nat, k < nm ∧ cntL Mt (Mt k).toInt nm = i) : Met l yX4_mark wsX4_mark ({ frames := 1, cells := 0, slots := 0, locals := 25 }) (va_Pc [.ref qy, .int p0, .int p1] (pre0 G cI cL [(qy, .inr (4, [.ref qy1, .ref qy2, .ref qy3, .ref qy4, .int zM, .ref qy5, .ref qy6, .int zH, .ref qy7, .int zT, .long bg])), (qy1, .inl (cI, 40, .inl Mt)), (qy2, .inl (cI, 40, .inl Ms)), (qy3, .inl (cI, 40, .inl Mf)), (qy4, .inl (cI, 40, .inl Ml)), (qy5, .inl (cI, 20, .inl Ht)), (qy6, .inl (cI, 20, .inl Hu)), (qy7, .inl (cL, 40, .inr (.inl Tp)))] sz)) (va_Qi (fun (r : Int32) (u : Unit) => ((p1.toInt < 0 ∨ 4 < p1.toInt) ∧ r.toInt = -2) ∨ ((0 ≤ p1.toInt ∧ p1.toInt ≤ 4) ∧ (((p0.toInt < 0 ∨ nm ≤ p0.toInt) ∧ r.toInt = -1) ∨ (0 ≤ p0.toInt ∧ p0.toInt < nm ∧ ∃ j : Nat, j < nm ∧ cntL Mt (Mt j).toInt nm = p0.toInt ∧ r.toInt = tellV Mt Ms Mf Ml j p1.toInt)))) (fun (u : Unit) t => va_P G vwCl [(qy, .inr (4, [.ref qy1, .ref qy2, .ref qy3, .ref qy4, .int zM, .ref qy5, .ref qy6, .int zH, .ref qy7, .int zT, .long bg])), (qy1, .inl (cI, 40, .inl Mt)), (qy2, .inl (cI, 40, .inl Ms)), (qy3, .inl (cI, 40, .inl Mf)), (qy4, .inl (cI, 40, .inl Ml)), (qy5, .inl (cI, 20, .inl Ht)), (qy6, .inl (cI, 20, .inl Hu)), (qy7, .inl (cL, 40, .inr (.inl Tp)))] t.heap ∧ va_D (va_A [(qy, .inr (4, [.ref qy1, .ref qy2, .ref qy3, .ref qy4, .int zM, .ref qy5, .ref qy6, .int zH, .ref qy7, .int zT, .long bg])), (qy1, .inl (cI, 40, .inl Mt)), (qy2, .inl (cI, 40, .inl Ms)), (qy3, .inl (cI, 40, .inl Mf)), (qy4, .inl (cI, 40, .inl Ml)), (qy5, .inl (cI, 20, .inl Ht)), (qy6, .inl (cI, 20, .inl Hu)), (qy7, .inl (cL, 40, .inr (.inl Tp)))] sz) [(qy, .inr (4, [.ref qy1, .ref qy2, .ref qy3, .ref qy4, .int zM, .ref qy5, .ref qy6, .int zH, .ref qy7, .int zT, .long bg])), (qy1, .inl (cI, 40, .inl Mt)), (qy2, .inl (cI, 40, .inl Ms)), (qy3, .inl (cI, 40, .inl Mf)), (qy4, .inl (cI, 40, .inl Ml)), (qy5, .inl (cI, 20, .inl Ht)), (qy6, .inl (cI, 20, .inl Hu)), (qy7, .inl (cL, 40, .inr (.inl Tp)))]) (va_A [(qy, .inr (4, [.ref qy1, .ref qy2, .ref qy3, .ref qy4, .int zM, .ref qy5, .ref qy6, .int zH, .ref qy7, .int zT, .long bg])), (qy1, .inl (cI, 40, .inl Mt)), (qy2, .inl (cI, 40, .inl Ms)), (qy3, .inl (cI, 40, .inl Mf)), (qy4, .inl (cI, 40, .inl Ml)), (qy5, .inl (cI, 20, .inl Ht)), (qy6, .inl (cI, 20, .inl Hu)), (qy7, .inl (cL, 40, .inr (.inl Tp)))] sz)) 0 0 (va_A [(qy, .inr (4, [.ref qy1, .ref qy2, .ref qy3, .ref qy4, .int zM, .ref qy5, .ref qy6, .int zH, .ref qy7, .int zT, .long bg])), (qy1, .inl (cI, 40, .inl Mt)), (qy2, .inl (cI, 40, .inl Ms)), (qy3, .inl (cI, 40, .inl Mf)), (qy4, .inl (cI, 40, .inl Ml)), (qy5, .inl (cI, 20, .inl Ht)), (qy6, .inl (cI, 20, .inl Hu)), (qy7, .inl (cL, 40, .inr (.inl Tp)))] sz) := by
  refine Met.ofW (cc := cX4_mark) (maxL := 7) (ret := (some .int)) (by decide) rfl ?_
  intro p e s m args below meth c s₁ B hml hv
  obtain ⟨rfl, hsz, hP, hK, hD0, hN⟩ := hv
  have hx := B.exec
  have hb := B.bytes
  have hr := B.returns
  have hts := atoms_spec (ws := wsX4_mark) B.pre
  have hown : s.vm.findClass RX4 = some m.cls := findClass_of_methodNamed B.named
  have hlocks := B.notSynchronized
  subst hsz
  have hD := hD0.self (sz := s.heap.size)
  generalize hAe : va_A [(qy, .inr (4, [.ref qy1, .ref qy2, .ref qy3, .ref qy4, .int zM, .ref qy5, .ref qy6, .int zH, .ref qy7, .int zT, .long bg])), (qy1, .inl (cI, 40, .inl Mt)), (qy2, .inl (cI, 40, .inl Ms)), (qy3, .inl (cI, 40, .inl Mf)), (qy4, .inl (cI, 40, .inl Ml)), (qy5, .inl (cI, 20, .inl Ht)), (qy6, .inl (cI, 20, .inl Hu)), (qy7, .inl (cL, 40, .inr (.inl Tp)))] s.heap.size = A at hD ⊢
  have hA : ∀ q : Nat, s.heap.size ≤ q → A q := fun q h => by rw [← hAe]; exact Or.inr h
  have hP : va_P G vwCl [(qy, .inr (4, [.ref qy1, .ref qy2, .ref qy3, .ref qy4, .int zM, .ref qy5, .ref qy6, .int zH, .ref qy7, .int zT, .long bg])), (qy1, .inl (cI, 40, .inl Mt)), (qy2, .inl (cI, 40, .inl Ms)), (qy3, .inl (cI, 40, .inl Mf)), (qy4, .inl (cI, 40, .inl Ml)), (qy5, .inl (cI, 20, .inl Ht)), (qy6, .inl (cI, 20, .inl Hu)), (qy7, .inl (cL, 40, .inr (.inl Tp)))] s.heap := hP
  have hl := lv_entry ([.ref qy, .int p0, .int p1]) (n := 7) (Nat.le_of_ble_eq_true rfl)
  rw [lg_entry_eq]
  generalize (lg_sl ([.ref qy, .int p0, .int p1]) ++ List.replicate (7 - (lg_sl ([.ref qy, .int p0, .int p1])).length) Slot.unset).toArray = ls at hl ⊢
  have hl : lv_has ls 7 [(0, .ref qy), (1, .int p0), (2, .int p1)] := hl
  have hf32 := hts (.fieldLink RX4 32 "TempoMapsModel" "marks" "I") (by decide +kernel)
  have hf7 := hts (.fieldLink RX4 7 "TempoMapsModel" "markTick" "[I") (by decide +kernel)
  have hf13 := hts (.fieldLink RX4 13 "TempoMapsModel" "markLong" "[I") (by decide +kernel)
  have hf16 := hts (.fieldLink RX4 16 "TempoMapsModel" "markFrom" "[I") (by decide +kernel)
  have hf19 := hts (.fieldLink RX4 19 "TempoMapsModel" "markTo" "[I") (by decide +kernel)
  have hiX4 : ∀ w ∈ wsX40, w ∈ wsX4_mark := by decide +kernel
  have zim2 : ((-2 : Int32)).toInt = -2 := by decide
  have zim1 : ((-1 : Int32)).toInt = -1 := by decide
  have zi0 : ((0 : Int32)).toInt = 0 := by decide
  have zi1 : ((1 : Int32)).toInt = 1 := by decide
  have zi2 : ((2 : Int32)).toInt = 2 := by decide
  have zi3 : ((3 : Int32)).toInt = 3 := by decide
  have zl0 : ((0 : Int64)).toInt = 0 := by decide
  have zl4 : ((4 : Int64)).toInt = 4 := by decide
  refine w_h (A := A) hP (fun H locs hP hS => ?_)
  have hn40 := hOM.1
  have hrg := hOM.2.1
  have hn20 := hOH.1
  have hrh := hOH.2.1
  have hn41 := hOT.1
  have hrt := hOT.2.1
  have zz0 : ((0 : Int32)).toInt = 0 := by decide
  refine lv_iload_n hx hb dX4_mark_0 rfl (lv_at hl 2 rfl) ?_
  refine lv_i2l hx hb dX4_mark_1 rfl ?_
  refine lv_topl (fun x1 ex1 => ?_)
  have tx1 : x1.toInt = p1.toInt := by rw [ex1]; exact tc_i2l rfl
  refine lv_lconst (v := 0) hx hb dX4_mark_2 (by decide) ?_
  refine lv_ldc2 (v := 4) hx hb hown (hts (.constantLong RX4 75 4) (by decide +kernel)) dX4_mark_3 ?_
  have hPc := hP.sub (ws' := ([] : va_W)) [] rfl
  have hDc := hD.sub (ws' := ([] : va_W)) [] (by decide) rfl
  have hcc := (ct_X4_in l G cI cL H.size x1 0 4)
  refine ro_calli (va_runS (As := [.long x1, .long 0, .long 4]) (rest := []) ⟨hx, hb, hml, hown, hts⟩ hcc (va_cwS 3 hts gX4_mark_X4_in rfl rfl rfl (by decide +kernel) ⟨Nat.le_of_ble_eq_true rfl, Nat.le_of_ble_eq_true rfl⟩) ⟨pre_blind, pre_pass hK hN hPc hDc⟩ rfl rfl hl.1 rfl (lv_room (Nat.le_of_ble_eq_true rfl)) dX4_mark_6 ⟨Nat.le_of_ble_eq_true rfl, Nat.le_of_ble_eq_true rfl⟩) hP hD hS hA [] rfl (fun r6 H locs hw6 hP hS => ?_)
  try dsimp only at hw6
  refine lv_if_ne (tgt := 15) hx hb dX4_mark_9 (by decide) (fun c9 => ?_) (fun c9 => ?_)
  · have k9 : (r6.toInt : Int) ≠ 0 := i_ne rfl (show ((0 : Int32)).toInt = 0 by decide) c9
    refine lv_iload_n hx hb dX4_mark_15 rfl (lv_at hl 1 rfl) ?_
    refine lv_i2l hx hb dX4_mark_16 rfl ?_
    refine lv_topl (fun x16 ex16 => ?_)
    have tx16 : x16.toInt = p0.toInt := by rw [ex16]; exact tc_i2l rfl
    refine lv_lconst (v := 0) hx hb dX4_mark_17 (by decide) ?_
    refine lv_aload_n hx hb dX4_mark_18 rfl (lv_at hl 0 rfl) ?_
    refine va_get (D := G) (ci := 4) (v := .int zM) (C := RX4) (T := TX4) (N := 11) hx hb hts hiX4 hown hK hP 0 rfl rfl 4 (by decide) hf32 (fun _ h9 => h9) rfl dX4_mark_19 ?_
    refine lv_iconst (v := 1) hx hb dX4_mark_22 (by decide) ?_
    refine lv_isub hx hb dX4_mark_23 ?_
    refine lv_topi (fun x23 ex23 => ?_)
    have tx23 : x23.toInt = zM.toInt - 1 := by rw [ex23]; exact ti_sub rfl (show ((1 : Int32)).toInt = 1 by decide) (by omega) (by omega)
    refine lv_i2l hx hb dX4_mark_24 rfl ?_
    refine lv_topl (fun x24 ex24 => ?_)
    have tx24 : x24.toInt = x23.toInt := by rw [ex24]; exact tc_i2l rfl
    have hPc := hP.sub (ws' := ([] : va_W)) [] rfl
    have hDc := hD.sub (ws' := ([] : va_W)) [] (by decide) rfl
    have hcc := (ct_X4_in l G cI cL H.size x16 0 x24)
    refine ro_calli (va_runS (As := [.long x16, .long 0, .long x24]) (rest := []) ⟨hx, hb, hml, hown, hts⟩ hcc (va_cwS 3 hts gX4_mark_X4_in rfl rfl rfl (by decide +kernel) ⟨Nat.le_of_ble_eq_true rfl, Nat.le_of_ble_eq_true rfl⟩) ⟨pre_blind, pre_pass hK hN hPc hDc⟩ rfl rfl hl.1 rfl (lv_room (Nat.le_of_ble_eq_true rfl)) dX4_mark_25 ⟨Nat.le_of_ble_eq_true rfl, Nat.le_of_ble_eq_true rfl⟩) hP hD hS hA [] rfl (fun r25 H locs hw25 hP hS => ?_)
    try dsimp only at hw25
    refine lv_if_ne (tgt := 33) hx hb dX4_mark_28 (by decide) (fun c28 => ?_) (fun c28 => ?_)
    · have k28 : (r25.toInt : Int) ≠ 0 := i_ne rfl (show ((0 : Int32)).toInt = 0 by decide) c28
      refine lv_iconst (v := (-1)) hx hb dX4_mark_33 (by decide) ?_
      refine lv_istore_n (lv' := [(3, .int ((-1))), (0, .ref qy), (1, .int p0), (2, .int p1)]) hx hb dX4_mark_34 rfl hl (by decide) rfl (fun ls hl => ?_)
      refine lv_iconst (v := 0) hx hb dX4_mark_35 (by decide) ?_
      refine lv_istore (lv' := [(4, .int 0), (3, .int ((-1))), (0, .ref qy), (1, .int p0), (2, .int p1)]) hx hb dX4_mark_36  hl (by decide) rfl (fun ls hl => ?_)
      refine W_loop2 (fun (v3 : Int32) (v4 : Int32) ls H locs => va_P G vwCl [(qy, .inr (4, [.ref qy1, .ref qy2, .ref qy3, .ref qy4, .int zM, .ref qy5, .ref qy6, .int zH, .ref qy7, .int zT, .long bg])), (qy1, .inl (cI, 40, .inl Mt)), (qy2, .inl (cI, 40, .inl Ms)), (qy3, .inl (cI, 40, .inl Mf)), (qy4, .inl (cI, 40, .inl Ml)), (qy5, .inl (cI, 20, .inl Ht)), (qy6, .inl (cI, 20, .inl Hu)), (qy7, .inl (cL, 40, .inr (.inl Tp)))] H ∧ va_D A [(qy, .inr (4, [.ref qy1, .ref qy2, .ref qy3, .ref qy4, .int zM, .ref qy5, .ref qy6, .int zH, .ref qy7, .int zT, .long bg])), (qy1, .inl (cI, 40, .inl Mt)), (qy2, .inl (cI, 40, .inl Ms)), (qy3, .inl (cI, 40, .inl Mf)), (qy4, .inl (cI, 40, .inl Ml)), (qy5, .inl (cI, 20, .inl Ht)), (qy6, .inl (cI, 20, .inl Hu)), (qy7, .inl (cL, 40, .inr (.inl Tp)))] ∧ va_S A s.heap H locs ∧ lv_has ls 7 [(0, .ref qy), (1, .int p0), (2, .int p1), (3, .int v3), (4, .int v4)] ∧ (0 ≤ v4.toInt ∧ v4.toInt ≤ nm) ∧ ((v3.toInt = -1 ∧ ∀ k : Nat, (k : Int) < v4.toInt → cntL Mt (Mt k).toInt nm ≠ p0.toInt) ∨ (0 ≤ v3.toInt ∧ v3.toInt < v4.toInt ∧ cntL Mt (Mt v3.toInt.toNat).toInt nm = p0.toInt))) (fun (v3 : Int32) (v4 : Int32) => (nm - v4.toInt).toNat) (fun v3 v4 ls H locs hI ih38 => ?_) (-1 : Int32) (0 : Int32) ls _ _ ⟨hP, hD, hS, lv_sub hl [2, 3, 4, 1, 0] rfl, (show 0 ≤ (0 : Int32).toInt ∧ (0 : Int32).toInt ≤ nm from by omega), (show ((-1 : Int32).toInt = -1 ∧ ∀ k : Nat, (k : Int) < (0 : Int32).toInt → cntL Mt (Mt k).toInt nm ≠ p0.toInt) ∨ (0 ≤ (-1 : Int32).toInt ∧ (-1 : Int32).toInt < (0 : Int32).toInt ∧ cntL Mt (Mt (-1 : Int32).toInt.toNat).toInt nm = p0.toInt) from Or.inl ⟨zim1, fun k hk => by omega⟩)⟩
      obtain ⟨hP, hD, hS, hl, i1, i2⟩ := hI
      refine lv_iload hx hb dX4_mark_38 (lv_at hl 4 rfl) ?_
      refine lv_aload_n hx hb dX4_mark_40 rfl (lv_at hl 0 rfl) ?_
      refine va_get (D := G) (ci := 4) (v := .int zM) (C := RX4) (T := TX4) (N := 11) hx hb hts hiX4 hown hK hP 0 rfl rfl 4 (by decide) hf32 (fun _ h9 => h9) rfl dX4_mark_41 ?_
      refine lv_icmp_ge (tgt := 114) hx hb dX4_mark_44 (by decide) (fun c44 => ?_) (fun c44 => ?_)
      · have k44 : (zM.toInt : Int) ≤ v4.toInt := i_le rfl rfl c44
        have at9 : 0 ≤ v3.toInt ∧ v3.toInt < nm ∧ cntL Mt (Mt v3.toInt.toNat).toInt nm = p0.toInt := by
          rcases i2 with i2 | i2
          · obtain ⟨k, hk, e⟩ := hex p0.toInt.toNat (by omega)
            exact absurd (by omega) (i2.2 k (by omega))
          · exact ⟨i2.1, by omega, i2.2.2⟩
        refine lv_iload_n hx hb dX4_mark_114 rfl (lv_at hl 2 rfl) ?_
        refine lv_if_ne (tgt := 127) hx hb dX4_mark_115 (by decide) (fun c115 => ?_) (fun c115 => ?_)
        · have k115 : (p1.toInt : Int) ≠ 0 := i_ne rfl (show ((0 : Int32)).toInt = 0 by decide) c115
          refine lv_iload_n hx hb dX4_mark_127 rfl (lv_at hl 2 rfl) ?_
          refine lv_iconst (v := 1) hx hb dX4_mark_128 (by decide) ?_
          refine lv_icmp_ne (tgt := 149) hx hb dX4_mark_129 (by decide) (fun c129 => ?_) (fun c129 => ?_)
          · have k129 : (p1.toInt : Int) ≠ 1 := i_ne rfl (show ((1 : Int32)).toInt = 1 by decide) c129
            refine lv_iload_n hx hb dX4_mark_149 rfl (lv_at hl 2 rfl) ?_
            refine lv_iconst (v := 2) hx hb dX4_mark_150 (by decide) ?_
            refine lv_icmp_ne (tgt := 163) hx hb dX4_mark_151 (by decide) (fun c151 => ?_) (fun c151 => ?_)
            · have k151 : (p1.toInt : Int) ≠ 2 := i_ne rfl (show ((2 : Int32)).toInt = 2 by decide) c151
              refine lv_iload_n hx hb dX4_mark_163 rfl (lv_at hl 2 rfl) ?_
              refine lv_iconst (v := 3) hx hb dX4_mark_164 (by decide) ?_
              refine lv_icmp_ne (tgt := 177) hx hb dX4_mark_165 (by decide) (fun c165 => ?_) (fun c165 => ?_)
              · have k165 : (p1.toInt : Int) ≠ 3 := i_ne rfl (show ((3 : Int32)).toInt = 3 by decide) c165
                refine lv_aload_n hx hb dX4_mark_177 rfl (lv_at hl 0 rfl) ?_
                refine va_get (D := G) (ci := 4) (v := .ref qy2) (C := RX4) (T := TX4) (N := 11) hx hb hts hiX4 hown hK hP 0 rfl rfl 1 (by decide) hf13 (fun _ h9 => h9) rfl dX4_mark_178 ?_
                refine lv_iload_n hx hb dX4_mark_181 rfl (lv_at hl 3 rfl) ?_
                refine va_iald hx hb hK hP 2 0 rfl rfl (vi_in rfl (by omega) (by omega)) dX4_mark_182 ?_
                refine lv_topi (fun x182 ex182 => ?_)
                have ex182 : x182 = Ms v3.toInt.toNat := by rw [ex182]; exact congrArg _ (cl_nat rfl (by omega))
                have tx182 : x182.toInt = (Ms v3.toInt.toNat).toInt := by rw [ex182]
                have hrg_x182 := hrg v3.toInt.toNat (by omega)
                exact W.iret (v := x182) hx hb hr (fun t ht hW => ⟨⟨x182, (), rfl, (by (try dsimp only); exact (by first | exact (Or.inr ⟨by omega, Or.inr ⟨by omega, by omega, v3.toInt.toNat, by omega, at9.2.2, by unfold tellV; rw [if_pos (by omega)]; omega⟩⟩) | exact (Or.inr ⟨by omega, Or.inr ⟨by omega, by omega, v3.toInt.toNat, by omega, at9.2.2, by unfold tellV; rw [if_neg (by omega), if_pos (by omega), if_pos (by omega)]; omega⟩⟩) | exact (Or.inr ⟨by omega, Or.inr ⟨by omega, by omega, v3.toInt.toNat, by omega, at9.2.2, by unfold tellV; rw [if_neg (by omega), if_pos (by omega), if_neg (by omega)]; omega⟩⟩) | exact (Or.inr ⟨by omega, Or.inr ⟨by omega, by omega, v3.toInt.toNat, by omega, at9.2.2, by unfold tellV; rw [if_neg (by omega), if_neg (by omega), if_pos (by omega)]; omega⟩⟩) | exact (Or.inr ⟨by omega, Or.inr ⟨by omega, by omega, v3.toInt.toNat, by omega, at9.2.2, by unfold tellV; rw [if_neg (by omega), if_neg (by omega), if_neg (by omega), if_pos (by omega)]; omega⟩⟩) | exact (Or.inr ⟨by omega, Or.inr ⟨by omega, by omega, v3.toInt.toNat, by omega, at9.2.2, by unfold tellV; rw [if_neg (by omega), if_neg (by omega), if_neg (by omega), if_neg (by omega)]; omega⟩⟩))), by rw [ht]; exact hP, hD⟩, hS.F ht⟩) hS.2.2 dX4_mark_183
              · have k165 : (p1.toInt : Int) = 3 := i_eq rfl (show ((3 : Int32)).toInt = 3 by decide) c165
                refine lv_aload_n hx hb dX4_mark_168 rfl (lv_at hl 0 rfl) ?_
                refine va_get (D := G) (ci := 4) (v := .ref qy4) (C := RX4) (T := TX4) (N := 11) hx hb hts hiX4 hown hK hP 0 rfl rfl 3 (by decide) hf19 (fun _ h9 => h9) rfl dX4_mark_169 ?_
                refine lv_iload_n hx hb dX4_mark_172 rfl (lv_at hl 3 rfl) ?_
                refine va_iald hx hb hK hP 4 0 rfl rfl (vi_in rfl (by omega) (by omega)) dX4_mark_173 ?_
                refine lv_topi (fun x173 ex173 => ?_)
                have ex173 : x173 = Ml v3.toInt.toNat := by rw [ex173]; exact congrArg _ (cl_nat rfl (by omega))
                have tx173 : x173.toInt = (Ml v3.toInt.toNat).toInt := by rw [ex173]
                have hrg_x173 := hrg v3.toInt.toNat (by omega)
                refine lv_goto (tgt := 183) hx hb dX4_mark_174 (by decide) ?_
                exact W.iret (v := x173) hx hb hr (fun t ht hW => ⟨⟨x173, (), rfl, (by (try dsimp only); exact (by first | exact (Or.inr ⟨by omega, Or.inr ⟨by omega, by omega, v3.toInt.toNat, by omega, at9.2.2, by unfold tellV; rw [if_pos (by omega)]; omega⟩⟩) | exact (Or.inr ⟨by omega, Or.inr ⟨by omega, by omega, v3.toInt.toNat, by omega, at9.2.2, by unfold tellV; rw [if_neg (by omega), if_pos (by omega), if_pos (by omega)]; omega⟩⟩) | exact (Or.inr ⟨by omega, Or.inr ⟨by omega, by omega, v3.toInt.toNat, by omega, at9.2.2, by unfold tellV; rw [if_neg (by omega), if_pos (by omega), if_neg (by omega)]; omega⟩⟩) | exact (Or.inr ⟨by omega, Or.inr ⟨by omega, by omega, v3.toInt.toNat, by omega, at9.2.2, by unfold tellV; rw [if_neg (by omega), if_neg (by omega), if_pos (by omega)]; omega⟩⟩) | exact (Or.inr ⟨by omega, Or.inr ⟨by omega, by omega, v3.toInt.toNat, by omega, at9.2.2, by unfold tellV; rw [if_neg (by omega), if_neg (by omega), if_neg (by omega), if_pos (by omega)]; omega⟩⟩) | exact (Or.inr ⟨by omega, Or.inr ⟨by omega, by omega, v3.toInt.toNat, by omega, at9.2.2, by unfold tellV; rw [if_neg (by omega), if_neg (by omega), if_neg (by omega), if_neg (by omega)]; omega⟩⟩))), by rw [ht]; exact hP, hD⟩, hS.F ht⟩) hS.2.2 dX4_mark_183
            · have k151 : (p1.toInt : Int) = 2 := i_eq rfl (show ((2 : Int32)).toInt = 2 by decide) c151
              refine lv_aload_n hx hb dX4_mark_154 rfl (lv_at hl 0 rfl) ?_
              refine va_get (D := G) (ci := 4) (v := .ref qy3) (C := RX4) (T := TX4) (N := 11) hx hb hts hiX4 hown hK hP 0 rfl rfl 2 (by decide) hf16 (fun _ h9 => h9) rfl dX4_mark_155 ?_
              refine lv_iload_n hx hb dX4_mark_158 rfl (lv_at hl 3 rfl) ?_
              refine va_iald hx hb hK hP 3 0 rfl rfl (vi_in rfl (by omega) (by omega)) dX4_mark_159 ?_
              refine lv_topi (fun x159 ex159 => ?_)
              have ex159 : x159 = Mf v3.toInt.toNat := by rw [ex159]; exact congrArg _ (cl_nat rfl (by omega))
              have tx159 : x159.toInt = (Mf v3.toInt.toNat).toInt := by rw [ex159]
              have hrg_x159 := hrg v3.toInt.toNat (by omega)
              refine lv_goto (tgt := 183) hx hb dX4_mark_160 (by decide) ?_
              exact W.iret (v := x159) hx hb hr (fun t ht hW => ⟨⟨x159, (), rfl, (by (try dsimp only); exact (by first | exact (Or.inr ⟨by omega, Or.inr ⟨by omega, by omega, v3.toInt.toNat, by omega, at9.2.2, by unfold tellV; rw [if_pos (by omega)]; omega⟩⟩) | exact (Or.inr ⟨by omega, Or.inr ⟨by omega, by omega, v3.toInt.toNat, by omega, at9.2.2, by unfold tellV; rw [if_neg (by omega), if_pos (by omega), if_pos (by omega)]; omega⟩⟩) | exact (Or.inr ⟨by omega, Or.inr ⟨by omega, by omega, v3.toInt.toNat, by omega, at9.2.2, by unfold tellV; rw [if_neg (by omega), if_pos (by omega), if_neg (by omega)]; omega⟩⟩) | exact (Or.inr ⟨by omega, Or.inr ⟨by omega, by omega, v3.toInt.toNat, by omega, at9.2.2, by unfold tellV; rw [if_neg (by omega), if_neg (by omega), if_pos (by omega)]; omega⟩⟩) | exact (Or.inr ⟨by omega, Or.inr ⟨by omega, by omega, v3.toInt.toNat, by omega, at9.2.2, by unfold tellV; rw [if_neg (by omega), if_neg (by omega), if_neg (by omega), if_pos (by omega)]; omega⟩⟩) | exact (Or.inr ⟨by omega, Or.inr ⟨by omega, by omega, v3.toInt.toNat, by omega, at9.2.2, by unfold tellV; rw [if_neg (by omega), if_neg (by omega), if_neg (by omega), if_neg (by omega)]; omega⟩⟩))), by rw [ht]; exact hP, hD⟩, hS.F ht⟩) hS.2.2 dX4_mark_183
          · have k129 : (p1.toInt : Int) = 1 := i_eq rfl (show ((1 : Int32)).toInt = 1 by decide) c129
            refine lv_aload_n hx hb dX4_mark_132 rfl (lv_at hl 0 rfl) ?_
            refine va_get (D := G) (ci := 4) (v := .ref qy2) (C := RX4) (T := TX4) (N := 11) hx hb hts hiX4 hown hK hP 0 rfl rfl 1 (by decide) hf13 (fun _ h9 => h9) rfl dX4_mark_133 ?_
            refine lv_iload_n hx hb dX4_mark_136 rfl (lv_at hl 3 rfl) ?_
            refine va_iald hx hb hK hP 2 0 rfl rfl (vi_in rfl (by omega) (by omega)) dX4_mark_137 ?_
            refine lv_topi (fun x137 ex137 => ?_)
            have ex137 : x137 = Ms v3.toInt.toNat := by rw [ex137]; exact congrArg _ (cl_nat rfl (by omega))
            have tx137 : x137.toInt = (Ms v3.toInt.toNat).toInt := by rw [ex137]
            have hrg_x137 := hrg v3.toInt.toNat (by omega)
            refine lv_if_le (tgt := 145) hx hb dX4_mark_138 (by decide) (fun c138 => ?_) (fun c138 => ?_)
            · have k138 : (x137.toInt : Int) ≤ 0 := i_le rfl (show ((0 : Int32)).toInt = 0 by decide) c138
              refine lv_iconst (v := 0) hx hb dX4_mark_145 (by decide) ?_
              refine lv_goto (tgt := 183) hx hb dX4_mark_146 (by decide) ?_
              exact W.iret (v := 0) hx hb hr (fun t ht hW => ⟨⟨0, (), rfl, (by (try dsimp only); exact (by first | exact (Or.inr ⟨by omega, Or.inr ⟨by omega, by omega, v3.toInt.toNat, by omega, at9.2.2, by unfold tellV; rw [if_pos (by omega)]; omega⟩⟩) | exact (Or.inr ⟨by omega, Or.inr ⟨by omega, by omega, v3.toInt.toNat, by omega, at9.2.2, by unfold tellV; rw [if_neg (by omega), if_pos (by omega), if_pos (by omega)]; omega⟩⟩) | exact (Or.inr ⟨by omega, Or.inr ⟨by omega, by omega, v3.toInt.toNat, by omega, at9.2.2, by unfold tellV; rw [if_neg (by omega), if_pos (by omega), if_neg (by omega)]; omega⟩⟩) | exact (Or.inr ⟨by omega, Or.inr ⟨by omega, by omega, v3.toInt.toNat, by omega, at9.2.2, by unfold tellV; rw [if_neg (by omega), if_neg (by omega), if_pos (by omega)]; omega⟩⟩) | exact (Or.inr ⟨by omega, Or.inr ⟨by omega, by omega, v3.toInt.toNat, by omega, at9.2.2, by unfold tellV; rw [if_neg (by omega), if_neg (by omega), if_neg (by omega), if_pos (by omega)]; omega⟩⟩) | exact (Or.inr ⟨by omega, Or.inr ⟨by omega, by omega, v3.toInt.toNat, by omega, at9.2.2, by unfold tellV; rw [if_neg (by omega), if_neg (by omega), if_neg (by omega), if_neg (by omega)]; omega⟩⟩))), by rw [ht]; exact hP, hD⟩, hS.F ht⟩) hS.2.2 dX4_mark_183
            · have k138 : (0 : Int) < x137.toInt := i_nle rfl (show ((0 : Int32)).toInt = 0 by decide) c138
              refine lv_iconst (v := 1) hx hb dX4_mark_141 (by decide) ?_
              refine lv_goto (tgt := 183) hx hb dX4_mark_142 (by decide) ?_
              exact W.iret (v := 1) hx hb hr (fun t ht hW => ⟨⟨1, (), rfl, (by (try dsimp only); exact (by first | exact (Or.inr ⟨by omega, Or.inr ⟨by omega, by omega, v3.toInt.toNat, by omega, at9.2.2, by unfold tellV; rw [if_pos (by omega)]; omega⟩⟩) | exact (Or.inr ⟨by omega, Or.inr ⟨by omega, by omega, v3.toInt.toNat, by omega, at9.2.2, by unfold tellV; rw [if_neg (by omega), if_pos (by omega), if_pos (by omega)]; omega⟩⟩) | exact (Or.inr ⟨by omega, Or.inr ⟨by omega, by omega, v3.toInt.toNat, by omega, at9.2.2, by unfold tellV; rw [if_neg (by omega), if_pos (by omega), if_neg (by omega)]; omega⟩⟩) | exact (Or.inr ⟨by omega, Or.inr ⟨by omega, by omega, v3.toInt.toNat, by omega, at9.2.2, by unfold tellV; rw [if_neg (by omega), if_neg (by omega), if_pos (by omega)]; omega⟩⟩) | exact (Or.inr ⟨by omega, Or.inr ⟨by omega, by omega, v3.toInt.toNat, by omega, at9.2.2, by unfold tellV; rw [if_neg (by omega), if_neg (by omega), if_neg (by omega), if_pos (by omega)]; omega⟩⟩) | exact (Or.inr ⟨by omega, Or.inr ⟨by omega, by omega, v3.toInt.toNat, by omega, at9.2.2, by unfold tellV; rw [if_neg (by omega), if_neg (by omega), if_neg (by omega), if_neg (by omega)]; omega⟩⟩))), by rw [ht]; exact hP, hD⟩, hS.F ht⟩) hS.2.2 dX4_mark_183
        · have k115 : (p1.toInt : Int) = 0 := i_eq rfl (show ((0 : Int32)).toInt = 0 by decide) c115
          refine lv_aload_n hx hb dX4_mark_118 rfl (lv_at hl 0 rfl) ?_
          refine va_get (D := G) (ci := 4) (v := .ref qy1) (C := RX4) (T := TX4) (N := 11) hx hb hts hiX4 hown hK hP 0 rfl rfl 0 (by decide) hf7 (fun _ h9 => h9) rfl dX4_mark_119 ?_
          refine lv_iload_n hx hb dX4_mark_122 rfl (lv_at hl 3 rfl) ?_
          refine va_iald hx hb hK hP 1 0 rfl rfl (vi_in rfl (by omega) (by omega)) dX4_mark_123 ?_
          refine lv_topi (fun x123 ex123 => ?_)
          have ex123 : x123 = Mt v3.toInt.toNat := by rw [ex123]; exact congrArg _ (cl_nat rfl (by omega))
          have tx123 : x123.toInt = (Mt v3.toInt.toNat).toInt := by rw [ex123]
          have hrg_x123 := hrg v3.toInt.toNat (by omega)
          refine lv_goto (tgt := 183) hx hb dX4_mark_124 (by decide) ?_
          exact W.iret (v := x123) hx hb hr (fun t ht hW => ⟨⟨x123, (), rfl, (by (try dsimp only); exact (by first | exact (Or.inr ⟨by omega, Or.inr ⟨by omega, by omega, v3.toInt.toNat, by omega, at9.2.2, by unfold tellV; rw [if_pos (by omega)]; omega⟩⟩) | exact (Or.inr ⟨by omega, Or.inr ⟨by omega, by omega, v3.toInt.toNat, by omega, at9.2.2, by unfold tellV; rw [if_neg (by omega), if_pos (by omega), if_pos (by omega)]; omega⟩⟩) | exact (Or.inr ⟨by omega, Or.inr ⟨by omega, by omega, v3.toInt.toNat, by omega, at9.2.2, by unfold tellV; rw [if_neg (by omega), if_pos (by omega), if_neg (by omega)]; omega⟩⟩) | exact (Or.inr ⟨by omega, Or.inr ⟨by omega, by omega, v3.toInt.toNat, by omega, at9.2.2, by unfold tellV; rw [if_neg (by omega), if_neg (by omega), if_pos (by omega)]; omega⟩⟩) | exact (Or.inr ⟨by omega, Or.inr ⟨by omega, by omega, v3.toInt.toNat, by omega, at9.2.2, by unfold tellV; rw [if_neg (by omega), if_neg (by omega), if_neg (by omega), if_pos (by omega)]; omega⟩⟩) | exact (Or.inr ⟨by omega, Or.inr ⟨by omega, by omega, v3.toInt.toNat, by omega, at9.2.2, by unfold tellV; rw [if_neg (by omega), if_neg (by omega), if_neg (by omega), if_neg (by omega)]; omega⟩⟩))), by rw [ht]; exact hP, hD⟩, hS.F ht⟩) hS.2.2 dX4_mark_183
      · have k44 : (v4.toInt : Int) < zM.toInt := i_nle rfl rfl c44
        refine lv_iconst (v := 0) hx hb dX4_mark_47 (by decide) ?_
        refine lv_istore (lv' := [(5, .int 0), (0, .ref qy), (1, .int p0), (2, .int p1), (3, .int v3), (4, .int v4)]) hx hb dX4_mark_48  hl (by decide) rfl (fun ls hl => ?_)
        refine lv_iconst (v := 0) hx hb dX4_mark_50 (by decide) ?_
        refine lv_istore (lv' := [(6, .int 0), (5, .int 0), (0, .ref qy), (1, .int p0), (2, .int p1), (3, .int v3), (4, .int v4)]) hx hb dX4_mark_51  hl (by decide) rfl (fun ls hl => ?_)
        refine W_loop2 (fun (v5 : Int32) (v6 : Int32) ls H locs => va_P G vwCl [(qy, .inr (4, [.ref qy1, .ref qy2, .ref qy3, .ref qy4, .int zM, .ref qy5, .ref qy6, .int zH, .ref qy7, .int zT, .long bg])), (qy1, .inl (cI, 40, .inl Mt)), (qy2, .inl (cI, 40, .inl Ms)), (qy3, .inl (cI, 40, .inl Mf)), (qy4, .inl (cI, 40, .inl Ml)), (qy5, .inl (cI, 20, .inl Ht)), (qy6, .inl (cI, 20, .inl Hu)), (qy7, .inl (cL, 40, .inr (.inl Tp)))] H ∧ va_D A [(qy, .inr (4, [.ref qy1, .ref qy2, .ref qy3, .ref qy4, .int zM, .ref qy5, .ref qy6, .int zH, .ref qy7, .int zT, .long bg])), (qy1, .inl (cI, 40, .inl Mt)), (qy2, .inl (cI, 40, .inl Ms)), (qy3, .inl (cI, 40, .inl Mf)), (qy4, .inl (cI, 40, .inl Ml)), (qy5, .inl (cI, 20, .inl Ht)), (qy6, .inl (cI, 20, .inl Hu)), (qy7, .inl (cL, 40, .inr (.inl Tp)))] ∧ va_S A s.heap H locs ∧ lv_has ls 7 [(0, .ref qy), (1, .int p0), (2, .int p1), (3, .int v3), (4, .int v4), (5, .int v5), (6, .int v6)] ∧ (0 ≤ v6.toInt ∧ v6.toInt ≤ nm) ∧ (v5.toInt = cntL Mt (Mt v4.toInt.toNat).toInt v6.toInt.toNat)) (fun (v5 : Int32) (v6 : Int32) => (nm - v6.toInt).toNat) (fun v5 v6 ls H locs hI ih53 => ?_) (0 : Int32) (0 : Int32) ls _ _ ⟨hP, hD, hS, lv_sub hl [2, 3, 4, 5, 6, 1, 0] rfl, (show 0 ≤ (0 : Int32).toInt ∧ (0 : Int32).toInt ≤ nm from by omega), (show (0 : Int32).toInt = cntL Mt (Mt v4.toInt.toNat).toInt (0 : Int32).toInt.toNat from by rw [zi0]; rfl)⟩
        obtain ⟨hP, hD, hS, hl, j1, j2⟩ := hI
        have cr := cntL_rng (t := Mt) (x := (Mt v4.toInt.toNat).toInt) v6.toInt.toNat
        refine lv_iload hx hb dX4_mark_53 (lv_at hl 6 rfl) ?_
        refine lv_aload_n hx hb dX4_mark_55 rfl (lv_at hl 0 rfl) ?_
        refine va_get (D := G) (ci := 4) (v := .int zM) (C := RX4) (T := TX4) (N := 11) hx hb hts hiX4 hown hK hP 0 rfl rfl 4 (by decide) hf32 (fun _ h9 => h9) rfl dX4_mark_56 ?_
        refine lv_icmp_ge (tgt := 95) hx hb dX4_mark_59 (by decide) (fun c59 => ?_) (fun c59 => ?_)
        · have k59 : (zM.toInt : Int) ≤ v6.toInt := i_le rfl rfl c59
          have iq : v5.toInt = cntL Mt (Mt v4.toInt.toNat).toInt nm := by rw [j2, show v6.toInt.toNat = nm by omega]
          refine lv_iload hx hb dX4_mark_95 (lv_at hl 5 rfl) ?_
          refine lv_iload_n hx hb dX4_mark_97 rfl (lv_at hl 1 rfl) ?_
          refine lv_icmp_ne (tgt := 106) hx hb dX4_mark_98 (by decide) (fun c98 => ?_) (fun c98 => ?_)
          · have k98 : (v5.toInt : Int) ≠ p0.toInt := i_ne rfl rfl c98
            refine lv_iload_n hx hb dX4_mark_106 rfl (lv_at hl 3 rfl) ?_
            refine lv_istore_n (lv' := [(3, .int v3), (0, .ref qy), (1, .int p0), (2, .int p1), (4, .int v4), (5, .int v5), (6, .int v6)]) hx hb dX4_mark_107 rfl hl (by decide) rfl (fun ls hl => ?_)
            obtain ⟨x108, ex108⟩ : ∃ y : Int32, y = v4 + 1 := ⟨_, rfl⟩
            have tx108 : x108.toInt = v4.toInt + 1 := by rw [ex108]; exact ti_add rfl (by decide) (by omega) (by omega)
            refine lv_iinc (v := x108) (lv' := [(4, .int x108), (3, .int v3), (0, .ref qy), (1, .int p0), (2, .int p1), (5, .int v5), (6, .int v6)]) hx hb dX4_mark_108 hl (k := 4) rfl (by rw [ex108]; rfl) (by decide) rfl (fun ls hl => ?_)
            refine lv_goto (tgt := 38) hx hb dX4_mark_111 (by decide) ?_
            exact ih38 v3 x108 ls _ _ ⟨hP, hD, hS, lv_sub hl [2, 3, 4, 1, 0] rfl, (show 0 ≤ x108.toInt ∧ x108.toInt ≤ nm from by omega), (show (v3.toInt = -1 ∧ ∀ k : Nat, (k : Int) < x108.toInt → cntL Mt (Mt k).toInt nm ≠ p0.toInt) ∨ (0 ≤ v3.toInt ∧ v3.toInt < x108.toInt ∧ cntL Mt (Mt v3.toInt.toNat).toInt nm = p0.toInt) from (by first | exact Or.inr ⟨by omega, by omega, by rw [← iq]; omega⟩ | (rcases i2 with i2 | i2; exact Or.inl ⟨i2.1, fun k hk => (Decidable.em ((k : Int) < v4.toInt)).elim (fun h => i2.2 k h) (fun h => by rw [show k = v4.toInt.toNat by omega, ← iq]; omega)⟩; exact Or.inr ⟨i2.1, by omega, i2.2.2⟩)))⟩ (show (nm - x108.toInt).toNat < (nm - v4.toInt).toNat from by omega)
          · have k98 : (v5.toInt : Int) = p0.toInt := i_eq rfl rfl c98
            refine lv_iload hx hb dX4_mark_101 (lv_at hl 4 rfl) ?_
            refine lv_goto (tgt := 107) hx hb dX4_mark_103 (by decide) ?_
            refine lv_istore_n (lv' := [(3, .int v4), (0, .ref qy), (1, .int p0), (2, .int p1), (4, .int v4), (5, .int v5), (6, .int v6)]) hx hb dX4_mark_107 rfl hl (by decide) rfl (fun ls hl => ?_)
            obtain ⟨x108_2, ex108_2⟩ : ∃ y : Int32, y = v4 + 1 := ⟨_, rfl⟩
            have tx108_2 : x108_2.toInt = v4.toInt + 1 := by rw [ex108_2]; exact ti_add rfl (by decide) (by omega) (by omega)
            refine lv_iinc (v := x108_2) (lv' := [(4, .int x108_2), (3, .int v4), (0, .ref qy), (1, .int p0), (2, .int p1), (5, .int v5), (6, .int v6)]) hx hb dX4_mark_108 hl (k := 4) rfl (by rw [ex108_2]; rfl) (by decide) rfl (fun ls hl => ?_)
            refine lv_goto (tgt := 38) hx hb dX4_mark_111 (by decide) ?_
            exact ih38 v4 x108_2 ls _ _ ⟨hP, hD, hS, lv_sub hl [2, 3, 4, 1, 0] rfl, (show 0 ≤ x108_2.toInt ∧ x108_2.toInt ≤ nm from by omega), (show (v4.toInt = -1 ∧ ∀ k : Nat, (k : Int) < x108_2.toInt → cntL Mt (Mt k).toInt nm ≠ p0.toInt) ∨ (0 ≤ v4.toInt ∧ v4.toInt < x108_2.toInt ∧ cntL Mt (Mt v4.toInt.toNat).toInt nm = p0.toInt) from (by first | exact Or.inr ⟨by omega, by omega, by rw [← iq]; omega⟩ | (rcases i2 with i2 | i2; exact Or.inl ⟨i2.1, fun k hk => (Decidable.em ((k : Int) < v4.toInt)).elim (fun h => i2.2 k h) (fun h => by rw [show k = v4.toInt.toNat by omega, ← iq]; omega)⟩; exact Or.inr ⟨i2.1, by omega, i2.2.2⟩)))⟩ (show (nm - x108_2.toInt).toNat < (nm - v4.toInt).toNat from by omega)
        · have k59 : (v6.toInt : Int) < zM.toInt := i_nle rfl rfl c59
          refine lv_iload hx hb dX4_mark_62 (lv_at hl 5 rfl) ?_
          refine lv_aload_n hx hb dX4_mark_64 rfl (lv_at hl 0 rfl) ?_
          refine va_get (D := G) (ci := 4) (v := .ref qy1) (C := RX4) (T := TX4) (N := 11) hx hb hts hiX4 hown hK hP 0 rfl rfl 0 (by decide) hf7 (fun _ h9 => h9) rfl dX4_mark_65 ?_
          refine lv_iload hx hb dX4_mark_68 (lv_at hl 6 rfl) ?_
          refine va_iald hx hb hK hP 1 0 rfl rfl (vi_in rfl (by omega) (by omega)) dX4_mark_70 ?_
          refine lv_topi (fun x70 ex70 => ?_)
          have ex70 : x70 = Mt v6.toInt.toNat := by rw [ex70]; exact congrArg _ (cl_nat rfl (by omega))
          have tx70 : x70.toInt = (Mt v6.toInt.toNat).toInt := by rw [ex70]
          have hrg_x70 := hrg v6.toInt.toNat (by omega)
          refine lv_aload_n hx hb dX4_mark_71 rfl (lv_at hl 0 rfl) ?_
          refine va_get (D := G) (ci := 4) (v := .ref qy1) (C := RX4) (T := TX4) (N := 11) hx hb hts hiX4 hown hK hP 0 rfl rfl 0 (by decide) hf7 (fun _ h9 => h9) rfl dX4_mark_72 ?_
          refine lv_iload hx hb dX4_mark_75 (lv_at hl 4 rfl) ?_
          refine va_iald hx hb hK hP 1 0 rfl rfl (vi_in rfl (by omega) (by omega)) dX4_mark_77 ?_
          refine lv_topi (fun x77 ex77 => ?_)
          have ex77 : x77 = Mt v4.toInt.toNat := by rw [ex77]; exact congrArg _ (cl_nat rfl (by omega))
          have tx77 : x77.toInt = (Mt v4.toInt.toNat).toInt := by rw [ex77]
          have hrg_x77 := hrg v4.toInt.toNat (by omega)
          refine lv_icmp_ge (tgt := 85) hx hb dX4_mark_78 (by decide) (fun c78 => ?_) (fun c78 => ?_)
          · have k78 : (x77.toInt : Int) ≤ x70.toInt := i_le rfl rfl c78
            refine lv_iconst (v := 0) hx hb dX4_mark_85 (by decide) ?_
            refine lv_iadd hx hb dX4_mark_86 ?_
            refine lv_topi (fun x86 ex86 => ?_)
            have tx86 : x86.toInt = v5.toInt + 0 := by rw [ex86]; exact ti_add rfl (show ((0 : Int32)).toInt = 0 by decide) (by omega) (by omega)
            refine lv_istore (lv' := [(5, .int x86), (0, .ref qy), (1, .int p0), (2, .int p1), (3, .int v3), (4, .int v4), (6, .int v6)]) hx hb dX4_mark_87  hl (by decide) rfl (fun ls hl => ?_)
            obtain ⟨x89, ex89⟩ : ∃ y : Int32, y = v6 + 1 := ⟨_, rfl⟩
            have tx89 : x89.toInt = v6.toInt + 1 := by rw [ex89]; exact ti_add rfl (by decide) (by omega) (by omega)
            refine lv_iinc (v := x89) (lv' := [(6, .int x89), (5, .int x86), (0, .ref qy), (1, .int p0), (2, .int p1), (3, .int v3), (4, .int v4)]) hx hb dX4_mark_89 hl (k := 6) rfl (by rw [ex89]; rfl) (by decide) rfl (fun ls hl => ?_)
            refine lv_goto (tgt := 53) hx hb dX4_mark_92 (by decide) ?_
            exact ih53 x86 x89 ls _ _ ⟨hP, hD, hS, lv_sub hl [2, 3, 4, 5, 6, 1, 0] rfl, (show 0 ≤ x89.toInt ∧ x89.toInt ≤ nm from by omega), (show x86.toInt = cntL Mt (Mt v4.toInt.toNat).toInt x89.toInt.toNat from by rw [show x89.toInt.toNat = v6.toInt.toNat + 1 by omega]; simp only [cntL]; (first | rw [if_pos (by omega)] | rw [if_neg (by omega)]); omega)⟩ (show (nm - x89.toInt).toNat < (nm - v6.toInt).toNat from by omega)
          · have k78 : (x70.toInt : Int) < x77.toInt := i_nle rfl rfl c78
            refine lv_iconst (v := 1) hx hb dX4_mark_81 (by decide) ?_
            refine lv_goto (tgt := 86) hx hb dX4_mark_82 (by decide) ?_
            refine lv_iadd hx hb dX4_mark_86 ?_
            refine lv_topi (fun x86_2 ex86_2 => ?_)
            have tx86_2 : x86_2.toInt = v5.toInt + 1 := by rw [ex86_2]; exact ti_add rfl (show ((1 : Int32)).toInt = 1 by decide) (by omega) (by omega)
            refine lv_istore (lv' := [(5, .int x86_2), (0, .ref qy), (1, .int p0), (2, .int p1), (3, .int v3), (4, .int v4), (6, .int v6)]) hx hb dX4_mark_87  hl (by decide) rfl (fun ls hl => ?_)
            obtain ⟨x89_2, ex89_2⟩ : ∃ y : Int32, y = v6 + 1 := ⟨_, rfl⟩
            have tx89_2 : x89_2.toInt = v6.toInt + 1 := by rw [ex89_2]; exact ti_add rfl (by decide) (by omega) (by omega)
            refine lv_iinc (v := x89_2) (lv' := [(6, .int x89_2), (5, .int x86_2), (0, .ref qy), (1, .int p0), (2, .int p1), (3, .int v3), (4, .int v4)]) hx hb dX4_mark_89 hl (k := 6) rfl (by rw [ex89_2]; rfl) (by decide) rfl (fun ls hl => ?_)
            refine lv_goto (tgt := 53) hx hb dX4_mark_92 (by decide) ?_
            exact ih53 x86_2 x89_2 ls _ _ ⟨hP, hD, hS, lv_sub hl [2, 3, 4, 5, 6, 1, 0] rfl, (show 0 ≤ x89_2.toInt ∧ x89_2.toInt ≤ nm from by omega), (show x86_2.toInt = cntL Mt (Mt v4.toInt.toNat).toInt x89_2.toInt.toNat from by rw [show x89_2.toInt.toNat = v6.toInt.toNat + 1 by omega]; simp only [cntL]; (first | rw [if_pos (by omega)] | rw [if_neg (by omega)]); omega)⟩ (show (nm - x89_2.toInt).toNat < (nm - v6.toInt).toNat from by omega)
    · have k28 : (r25.toInt : Int) = 0 := i_eq rfl (show ((0 : Int32)).toInt = 0 by decide) c28
      refine lv_iconst (v := (-1)) hx hb dX4_mark_31 (by decide) ?_
      exact W.iret (v := (-1)) hx hb hr (fun t ht hW => ⟨⟨(-1), (), rfl, (by (try dsimp only); exact (Or.inr ⟨by omega, Or.inl ⟨by omega, by omega⟩⟩)), by rw [ht]; exact hP, hD⟩, hS.F ht⟩) hS.2.2 dX4_mark_32
  · have k9 : (r6.toInt : Int) = 0 := i_eq rfl (show ((0 : Int32)).toInt = 0 by decide) c9
    refine lv_bipush (v := (-2)) hx hb dX4_mark_12 (by decide) ?_
    exact W.iret (v := (-2)) hx hb hr (fun t ht hW => ⟨⟨(-2), (), rfl, (by (try dsimp only); exact (Or.inl ⟨by omega, by omega⟩)), by rw [ht]; exact hP, hD⟩, hS.F ht⟩) hS.2.2 dX4_mark_14

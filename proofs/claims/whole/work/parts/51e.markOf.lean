set_option maxHeartbeats 1000000 in
set_option maxRecDepth 100000 in
theorem ct_X4_markOf (l : Launch) (G : va_G) (cI cL : ClassId) (sz : Nat) (qy : Nat) (qy1 : Nat) (qy2 : Nat) (qy3 : Nat) (qy4 : Nat) (qy5 : Nat) (qy6 : Nat) (qy7 : Nat) (zM : Int32) (zH : Int32) (zT : Int32) (bg : Int64) (Mt : Nat → Int32) (Ms : Nat → Int32) (Mf : Nat → Int32) (Ml : Nat → Int32) (Ht : Nat → Int32) (Hu : Nat → Int32) (Tp : Nat → Int64) (p0 : Int32) (nm : Nat) (hnM : zM.toInt = nm) (hOM : okM nm Mt Ms Mf Ml) (nh : Nat) (hnH : zH.toInt = nh) (hOH : okH nh Ht Hu) (nt : Nat) (hnT : zT.toInt = nt) (hOT : okT nt Tp) : Met l yX4_markOf wsX4_markOf ({ frames := 0, cells := 0, slots := 0, locals := 0 }) (va_Pc [.ref qy, .int p0] (pre0 G cI cL [(qy, .inr (4, [.ref qy1, .ref qy2, .ref qy3, .ref qy4, .int zM, .ref qy5, .ref qy6, .int zH, .ref qy7, .int zT, .long bg])), (qy1, .inl (cI, 40, .inl Mt)), (qy2, .inl (cI, 40, .inl Ms)), (qy3, .inl (cI, 40, .inl Mf)), (qy4, .inl (cI, 40, .inl Ml)), (qy5, .inl (cI, 20, .inl Ht)), (qy6, .inl (cI, 20, .inl Hu)), (qy7, .inl (cL, 40, .inr (.inl Tp)))] sz)) (va_Qi (fun (r : Int32) (u : Unit) => r.toInt = bi Mt p0.toInt nm) (fun (u : Unit) t => va_P G vwCl [(qy, .inr (4, [.ref qy1, .ref qy2, .ref qy3, .ref qy4, .int zM, .ref qy5, .ref qy6, .int zH, .ref qy7, .int zT, .long bg])), (qy1, .inl (cI, 40, .inl Mt)), (qy2, .inl (cI, 40, .inl Ms)), (qy3, .inl (cI, 40, .inl Mf)), (qy4, .inl (cI, 40, .inl Ml)), (qy5, .inl (cI, 20, .inl Ht)), (qy6, .inl (cI, 20, .inl Hu)), (qy7, .inl (cL, 40, .inr (.inl Tp)))] t.heap ∧ va_D (va_A [(qy, .inr (4, [.ref qy1, .ref qy2, .ref qy3, .ref qy4, .int zM, .ref qy5, .ref qy6, .int zH, .ref qy7, .int zT, .long bg])), (qy1, .inl (cI, 40, .inl Mt)), (qy2, .inl (cI, 40, .inl Ms)), (qy3, .inl (cI, 40, .inl Mf)), (qy4, .inl (cI, 40, .inl Ml)), (qy5, .inl (cI, 20, .inl Ht)), (qy6, .inl (cI, 20, .inl Hu)), (qy7, .inl (cL, 40, .inr (.inl Tp)))] sz) [(qy, .inr (4, [.ref qy1, .ref qy2, .ref qy3, .ref qy4, .int zM, .ref qy5, .ref qy6, .int zH, .ref qy7, .int zT, .long bg])), (qy1, .inl (cI, 40, .inl Mt)), (qy2, .inl (cI, 40, .inl Ms)), (qy3, .inl (cI, 40, .inl Mf)), (qy4, .inl (cI, 40, .inl Ml)), (qy5, .inl (cI, 20, .inl Ht)), (qy6, .inl (cI, 20, .inl Hu)), (qy7, .inl (cL, 40, .inr (.inl Tp)))]) (va_A [(qy, .inr (4, [.ref qy1, .ref qy2, .ref qy3, .ref qy4, .int zM, .ref qy5, .ref qy6, .int zH, .ref qy7, .int zT, .long bg])), (qy1, .inl (cI, 40, .inl Mt)), (qy2, .inl (cI, 40, .inl Ms)), (qy3, .inl (cI, 40, .inl Mf)), (qy4, .inl (cI, 40, .inl Ml)), (qy5, .inl (cI, 20, .inl Ht)), (qy6, .inl (cI, 20, .inl Hu)), (qy7, .inl (cL, 40, .inr (.inl Tp)))] sz)) 0 0 (va_A [(qy, .inr (4, [.ref qy1, .ref qy2, .ref qy3, .ref qy4, .int zM, .ref qy5, .ref qy6, .int zH, .ref qy7, .int zT, .long bg])), (qy1, .inl (cI, 40, .inl Mt)), (qy2, .inl (cI, 40, .inl Ms)), (qy3, .inl (cI, 40, .inl Mf)), (qy4, .inl (cI, 40, .inl Ml)), (qy5, .inl (cI, 20, .inl Ht)), (qy6, .inl (cI, 20, .inl Hu)), (qy7, .inl (cL, 40, .inr (.inl Tp)))] sz) := by
  refine Met.ofW (cc := cX4_markOf) (maxL := 4) (ret := (some .int)) (by decide) rfl ?_
  intro p e s m args below meth c s₁ B hml hv
  obtain ⟨rfl, hsz, hP, hK, hD0, hN⟩ := hv
  have hx := B.exec
  have hb := B.bytes
  have hr := B.returns
  have hts := atoms_spec (ws := wsX4_markOf) B.pre
  have hown : s.vm.findClass RX4 = some m.cls := findClass_of_methodNamed B.named
  have hlocks := B.notSynchronized
  subst hsz
  have hD := hD0.self (sz := s.heap.size)
  generalize hAe : va_A [(qy, .inr (4, [.ref qy1, .ref qy2, .ref qy3, .ref qy4, .int zM, .ref qy5, .ref qy6, .int zH, .ref qy7, .int zT, .long bg])), (qy1, .inl (cI, 40, .inl Mt)), (qy2, .inl (cI, 40, .inl Ms)), (qy3, .inl (cI, 40, .inl Mf)), (qy4, .inl (cI, 40, .inl Ml)), (qy5, .inl (cI, 20, .inl Ht)), (qy6, .inl (cI, 20, .inl Hu)), (qy7, .inl (cL, 40, .inr (.inl Tp)))] s.heap.size = A at hD ⊢
  have hA : ∀ q : Nat, s.heap.size ≤ q → A q := fun q h => by rw [← hAe]; exact Or.inr h
  have hP : va_P G vwCl [(qy, .inr (4, [.ref qy1, .ref qy2, .ref qy3, .ref qy4, .int zM, .ref qy5, .ref qy6, .int zH, .ref qy7, .int zT, .long bg])), (qy1, .inl (cI, 40, .inl Mt)), (qy2, .inl (cI, 40, .inl Ms)), (qy3, .inl (cI, 40, .inl Mf)), (qy4, .inl (cI, 40, .inl Ml)), (qy5, .inl (cI, 20, .inl Ht)), (qy6, .inl (cI, 20, .inl Hu)), (qy7, .inl (cL, 40, .inr (.inl Tp)))] s.heap := hP
  have hl := lv_entry ([.ref qy, .int p0]) (n := 4) (Nat.le_of_ble_eq_true rfl)
  rw [lg_entry_eq]
  generalize (lg_sl ([.ref qy, .int p0]) ++ List.replicate (4 - (lg_sl ([.ref qy, .int p0])).length) Slot.unset).toArray = ls at hl ⊢
  have hl : lv_has ls 4 [(0, .ref qy), (1, .int p0)] := hl
  have hf32 := hts (.fieldLink RX4 32 "TempoMapsModel" "marks" "I") (by decide +kernel)
  have hf7 := hts (.fieldLink RX4 7 "TempoMapsModel" "markTick" "[I") (by decide +kernel)
  have hiX4 : ∀ w ∈ wsX40, w ∈ wsX4_markOf := by decide +kernel
  have zim1 : ((-1 : Int32)).toInt = -1 := by decide
  have zi0 : ((0 : Int32)).toInt = 0 := by decide
  have zi1 : ((1 : Int32)).toInt = 1 := by decide
  refine w_h (A := A) hP (fun H locs hP hS => ?_)
  have hn40 := hOM.1
  have hrg := hOM.2.1
  have hn20 := hOH.1
  have hrh := hOH.2.1
  have hn41 := hOT.1
  have hrt := hOT.2.1
  have zz0 : ((0 : Int32)).toInt = 0 := by decide
  refine lv_iconst (v := (-1)) hx hb dX4_markOf_0 (by decide) ?_
  refine lv_istore_n (lv' := [(2, .int ((-1))), (0, .ref qy), (1, .int p0)]) hx hb dX4_markOf_1 rfl hl (by decide) rfl (fun ls hl => ?_)
  refine lv_iconst (v := 0) hx hb dX4_markOf_2 (by decide) ?_
  refine lv_istore_n (lv' := [(3, .int 0), (2, .int ((-1))), (0, .ref qy), (1, .int p0)]) hx hb dX4_markOf_3 rfl hl (by decide) rfl (fun ls hl => ?_)
  refine W_loop2 (fun (v2 : Int32) (v3 : Int32) ls H locs => va_P G vwCl [(qy, .inr (4, [.ref qy1, .ref qy2, .ref qy3, .ref qy4, .int zM, .ref qy5, .ref qy6, .int zH, .ref qy7, .int zT, .long bg])), (qy1, .inl (cI, 40, .inl Mt)), (qy2, .inl (cI, 40, .inl Ms)), (qy3, .inl (cI, 40, .inl Mf)), (qy4, .inl (cI, 40, .inl Ml)), (qy5, .inl (cI, 20, .inl Ht)), (qy6, .inl (cI, 20, .inl Hu)), (qy7, .inl (cL, 40, .inr (.inl Tp)))] H ∧ va_D A [(qy, .inr (4, [.ref qy1, .ref qy2, .ref qy3, .ref qy4, .int zM, .ref qy5, .ref qy6, .int zH, .ref qy7, .int zT, .long bg])), (qy1, .inl (cI, 40, .inl Mt)), (qy2, .inl (cI, 40, .inl Ms)), (qy3, .inl (cI, 40, .inl Mf)), (qy4, .inl (cI, 40, .inl Ml)), (qy5, .inl (cI, 20, .inl Ht)), (qy6, .inl (cI, 20, .inl Hu)), (qy7, .inl (cL, 40, .inr (.inl Tp)))] ∧ va_S A s.heap H locs ∧ lv_has ls 4 [(0, .ref qy), (1, .int p0), (2, .int v2), (3, .int v3)] ∧ (0 ≤ v3.toInt ∧ v3.toInt ≤ nm) ∧ (v2.toInt = bi Mt p0.toInt v3.toInt.toNat)) (fun (v2 : Int32) (v3 : Int32) => (nm - v3.toInt).toNat) (fun v2 v3 ls H locs hI ih4 => ?_) (-1 : Int32) (0 : Int32) ls _ _ ⟨hP, hD, hS, lv_sub hl [2, 3, 1, 0] rfl, (show 0 ≤ (0 : Int32).toInt ∧ (0 : Int32).toInt ≤ nm from by omega), (show (-1 : Int32).toInt = bi Mt p0.toInt (0 : Int32).toInt.toNat from by rw [zi0]; exact zim1)⟩
  obtain ⟨hP, hD, hS, hl, i1, i2⟩ := hI
  have hbr := bi_rng (t := Mt) (x := p0.toInt) v3.toInt.toNat
  rw [← i2] at hbr
  refine lv_iload_n hx hb dX4_markOf_4 rfl (lv_at hl 3 rfl) ?_
  refine lv_aload_n hx hb dX4_markOf_5 rfl (lv_at hl 0 rfl) ?_
  refine va_get (D := G) (ci := 4) (v := .int zM) (C := RX4) (T := TX4) (N := 11) hx hb hts hiX4 hown hK hP 0 rfl rfl 4 (by decide) hf32 (fun _ h9 => h9) rfl dX4_markOf_6 ?_
  refine lv_icmp_ge (tgt := 54) hx hb dX4_markOf_9 (by decide) (fun c9 => ?_) (fun c9 => ?_)
  · have k9 : (zM.toInt : Int) ≤ v3.toInt := i_le rfl rfl c9
    refine lv_iload_n hx hb dX4_markOf_54 rfl (lv_at hl 2 rfl) ?_
    exact W.iret (v := v2) hx hb hr (fun t ht hW => ⟨⟨v2, (), rfl, (by (try dsimp only); exact (by rw [i2, show v3.toInt.toNat = nm by omega])), by rw [ht]; exact hP, hD⟩, hS.F ht⟩) hS.2.2 dX4_markOf_55
  · have k9 : (v3.toInt : Int) < zM.toInt := i_nle rfl rfl c9
    refine lv_aload_n hx hb dX4_markOf_12 rfl (lv_at hl 0 rfl) ?_
    refine va_get (D := G) (ci := 4) (v := .ref qy1) (C := RX4) (T := TX4) (N := 11) hx hb hts hiX4 hown hK hP 0 rfl rfl 0 (by decide) hf7 (fun _ h9 => h9) rfl dX4_markOf_13 ?_
    refine lv_iload_n hx hb dX4_markOf_16 rfl (lv_at hl 3 rfl) ?_
    refine va_iald hx hb hK hP 1 0 rfl rfl (vi_in rfl (by omega) (by omega)) dX4_markOf_17 ?_
    refine lv_topi (fun x17 ex17 => ?_)
    have ex17 : x17 = Mt v3.toInt.toNat := by rw [ex17]; exact congrArg _ (cl_nat rfl (by omega))
    have tx17 : x17.toInt = (Mt v3.toInt.toNat).toInt := by rw [ex17]
    have hrg_x17 := hrg v3.toInt.toNat (by omega)
    refine lv_iload_n hx hb dX4_markOf_18 rfl (lv_at hl 1 rfl) ?_
    refine lv_icmp_gt (tgt := 46) hx hb dX4_markOf_19 (by decide) (fun c19 => ?_) (fun c19 => ?_)
    · have k19 : (p0.toInt : Int) < x17.toInt := i_lt rfl rfl c19
      refine lv_iload_n hx hb dX4_markOf_46 rfl (lv_at hl 2 rfl) ?_
      refine lv_istore_n (lv' := [(2, .int v2), (0, .ref qy), (1, .int p0), (3, .int v3)]) hx hb dX4_markOf_47 rfl hl (by decide) rfl (fun ls hl => ?_)
      obtain ⟨x48, ex48⟩ : ∃ y : Int32, y = v3 + 1 := ⟨_, rfl⟩
      have tx48 : x48.toInt = v3.toInt + 1 := by rw [ex48]; exact ti_add rfl (by decide) (by omega) (by omega)
      refine lv_iinc (v := x48) (lv' := [(3, .int x48), (2, .int v2), (0, .ref qy), (1, .int p0)]) hx hb dX4_markOf_48 hl (k := 3) rfl (by rw [ex48]; rfl) (by decide) rfl (fun ls hl => ?_)
      refine lv_goto (tgt := 4) hx hb dX4_markOf_51 (by decide) ?_
      exact ih4 v2 x48 ls _ _ ⟨hP, hD, hS, lv_sub hl [2, 3, 1, 0] rfl, (show 0 ≤ x48.toInt ∧ x48.toInt ≤ nm from by omega), (show v2.toInt = bi Mt p0.toInt x48.toInt.toNat from by rw [show x48.toInt.toNat = v3.toInt.toNat + 1 by omega]; (first | rw [bi_yes (by rw [← i2]; omega)]; omega | rw [bi_no (by rw [← i2]; omega)]; exact i2))⟩ (show (nm - x48.toInt).toNat < (nm - v3.toInt).toNat from by omega)
    · have k19 : (x17.toInt : Int) ≤ p0.toInt := i_nlt rfl rfl c19
      refine lv_iload_n hx hb dX4_markOf_22 rfl (lv_at hl 2 rfl) ?_
      refine lv_iconst (v := (-1)) hx hb dX4_markOf_23 (by decide) ?_
      refine lv_icmp_eq (tgt := 42) hx hb dX4_markOf_24 (by decide) (fun c24 => ?_) (fun c24 => ?_)
      · have k24 : (v2.toInt : Int) = (-1) := i_eq rfl (show ((-1 : Int32)).toInt = -1 by decide) c24
        refine lv_iload_n hx hb dX4_markOf_42 rfl (lv_at hl 3 rfl) ?_
        refine lv_goto (tgt := 47) hx hb dX4_markOf_43 (by decide) ?_
        refine lv_istore_n (lv' := [(2, .int v3), (0, .ref qy), (1, .int p0), (3, .int v3)]) hx hb dX4_markOf_47 rfl hl (by decide) rfl (fun ls hl => ?_)
        obtain ⟨x48_2, ex48_2⟩ : ∃ y : Int32, y = v3 + 1 := ⟨_, rfl⟩
        have tx48_2 : x48_2.toInt = v3.toInt + 1 := by rw [ex48_2]; exact ti_add rfl (by decide) (by omega) (by omega)
        refine lv_iinc (v := x48_2) (lv' := [(3, .int x48_2), (2, .int v3), (0, .ref qy), (1, .int p0)]) hx hb dX4_markOf_48 hl (k := 3) rfl (by rw [ex48_2]; rfl) (by decide) rfl (fun ls hl => ?_)
        refine lv_goto (tgt := 4) hx hb dX4_markOf_51 (by decide) ?_
        exact ih4 v3 x48_2 ls _ _ ⟨hP, hD, hS, lv_sub hl [2, 3, 1, 0] rfl, (show 0 ≤ x48_2.toInt ∧ x48_2.toInt ≤ nm from by omega), (show v3.toInt = bi Mt p0.toInt x48_2.toInt.toNat from by rw [show x48_2.toInt.toNat = v3.toInt.toNat + 1 by omega]; (first | rw [bi_yes (by rw [← i2]; omega)]; omega | rw [bi_no (by rw [← i2]; omega)]; exact i2))⟩ (show (nm - x48_2.toInt).toNat < (nm - v3.toInt).toNat from by omega)
      · have k24 : (v2.toInt : Int) ≠ (-1) := i_ne rfl (show ((-1 : Int32)).toInt = -1 by decide) c24
        refine lv_aload_n hx hb dX4_markOf_27 rfl (lv_at hl 0 rfl) ?_
        refine va_get (D := G) (ci := 4) (v := .ref qy1) (C := RX4) (T := TX4) (N := 11) hx hb hts hiX4 hown hK hP 0 rfl rfl 0 (by decide) hf7 (fun _ h9 => h9) rfl dX4_markOf_28 ?_
        refine lv_iload_n hx hb dX4_markOf_31 rfl (lv_at hl 3 rfl) ?_
        refine va_iald hx hb hK hP 1 0 rfl rfl (vi_in rfl (by omega) (by omega)) dX4_markOf_32 ?_
        refine lv_topi (fun x32 ex32 => ?_)
        have ex32 : x32 = Mt v3.toInt.toNat := by rw [ex32]; exact congrArg _ (cl_nat rfl (by omega))
        have tx32 : x32.toInt = (Mt v3.toInt.toNat).toInt := by rw [ex32]
        have hrg_x32 := hrg v3.toInt.toNat (by omega)
        refine lv_aload_n hx hb dX4_markOf_33 rfl (lv_at hl 0 rfl) ?_
        refine va_get (D := G) (ci := 4) (v := .ref qy1) (C := RX4) (T := TX4) (N := 11) hx hb hts hiX4 hown hK hP 0 rfl rfl 0 (by decide) hf7 (fun _ h9 => h9) rfl dX4_markOf_34 ?_
        refine lv_iload_n hx hb dX4_markOf_37 rfl (lv_at hl 2 rfl) ?_
        refine va_iald hx hb hK hP 1 0 rfl rfl (vi_in rfl (by omega) (by omega)) dX4_markOf_38 ?_
        refine lv_topi (fun x38 ex38 => ?_)
        have ex38 : x38 = Mt v2.toInt.toNat := by rw [ex38]; exact congrArg _ (cl_nat rfl (by omega))
        have tx38 : x38.toInt = (Mt v2.toInt.toNat).toInt := by rw [ex38]
        have hrg_x38 := hrg v2.toInt.toNat (by omega)
        refine lv_icmp_le (tgt := 46) hx hb dX4_markOf_39 (by decide) (fun c39 => ?_) (fun c39 => ?_)
        · have k39 : (x32.toInt : Int) ≤ x38.toInt := i_le rfl rfl c39
          refine lv_iload_n hx hb dX4_markOf_46 rfl (lv_at hl 2 rfl) ?_
          refine lv_istore_n (lv' := [(2, .int v2), (0, .ref qy), (1, .int p0), (3, .int v3)]) hx hb dX4_markOf_47 rfl hl (by decide) rfl (fun ls hl => ?_)
          obtain ⟨x48_3, ex48_3⟩ : ∃ y : Int32, y = v3 + 1 := ⟨_, rfl⟩
          have tx48_3 : x48_3.toInt = v3.toInt + 1 := by rw [ex48_3]; exact ti_add rfl (by decide) (by omega) (by omega)
          refine lv_iinc (v := x48_3) (lv' := [(3, .int x48_3), (2, .int v2), (0, .ref qy), (1, .int p0)]) hx hb dX4_markOf_48 hl (k := 3) rfl (by rw [ex48_3]; rfl) (by decide) rfl (fun ls hl => ?_)
          refine lv_goto (tgt := 4) hx hb dX4_markOf_51 (by decide) ?_
          exact ih4 v2 x48_3 ls _ _ ⟨hP, hD, hS, lv_sub hl [2, 3, 1, 0] rfl, (show 0 ≤ x48_3.toInt ∧ x48_3.toInt ≤ nm from by omega), (show v2.toInt = bi Mt p0.toInt x48_3.toInt.toNat from by rw [show x48_3.toInt.toNat = v3.toInt.toNat + 1 by omega]; (first | rw [bi_yes (by rw [← i2]; omega)]; omega | rw [bi_no (by rw [← i2]; omega)]; exact i2))⟩ (show (nm - x48_3.toInt).toNat < (nm - v3.toInt).toNat from by omega)
        · have k39 : (x38.toInt : Int) < x32.toInt := i_nle rfl rfl c39
          refine lv_iload_n hx hb dX4_markOf_42 rfl (lv_at hl 3 rfl) ?_
          refine lv_goto (tgt := 47) hx hb dX4_markOf_43 (by decide) ?_
          refine lv_istore_n (lv' := [(2, .int v3), (0, .ref qy), (1, .int p0), (3, .int v3)]) hx hb dX4_markOf_47 rfl hl (by decide) rfl (fun ls hl => ?_)
          obtain ⟨x48_4, ex48_4⟩ : ∃ y : Int32, y = v3 + 1 := ⟨_, rfl⟩
          have tx48_4 : x48_4.toInt = v3.toInt + 1 := by rw [ex48_4]; exact ti_add rfl (by decide) (by omega) (by omega)
          refine lv_iinc (v := x48_4) (lv' := [(3, .int x48_4), (2, .int v3), (0, .ref qy), (1, .int p0)]) hx hb dX4_markOf_48 hl (k := 3) rfl (by rw [ex48_4]; rfl) (by decide) rfl (fun ls hl => ?_)
          refine lv_goto (tgt := 4) hx hb dX4_markOf_51 (by decide) ?_
          exact ih4 v3 x48_4 ls _ _ ⟨hP, hD, hS, lv_sub hl [2, 3, 1, 0] rfl, (show 0 ≤ x48_4.toInt ∧ x48_4.toInt ≤ nm from by omega), (show v3.toInt = bi Mt p0.toInt x48_4.toInt.toNat from by rw [show x48_4.toInt.toNat = v3.toInt.toNat + 1 by omega]; (first | rw [bi_yes (by rw [← i2]; omega)]; omega | rw [bi_no (by rw [← i2]; omega)]; exact i2))⟩ (show (nm - x48_4.toInt).toNat < (nm - v3.toInt).toNat from by omega)

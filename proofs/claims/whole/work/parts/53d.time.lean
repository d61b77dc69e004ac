set_option maxHeartbeats 1000000 in
set_option maxRecDepth 100000 in
theorem ct_X4_time (l : Launch) (G : va_G) (cI cL : ClassId) (sz : Nat) (qy : Nat) (qy1 : Nat) (qy2 : Nat) (qy3 : Nat) (qy4 : Nat) (qy5 : Nat) (qy6 : Nat) (qy7 : Nat) (zM : Int32) (zH : Int32) (zT : Int32) (bg : Int64) (Mt : Nat → Int32) (Ms : Nat → Int32) (Mf : Nat → Int32) (Ml : Nat → Int32) (Ht : Nat → Int32) (Hu : Nat → Int32) (Tp : Nat → Int64) (p0 : Int32) (nm : Nat) (hnM : zM.toInt = nm) (hOM : okM nm Mt Ms Mf Ml) (nh : Nat) (hnH : zH.toInt = nh) (hOH : okH nh Ht Hu) (nt : Nat) (hnT : zT.toInt = nt) (hOT : okT nt Tp) : Met l yX4_time wsX4_time ({ frames := 2, cells := 0, slots := 0, locals := 52 }) (va_Pc [.ref qy, .int p0] (pre0 G cI cL [(qy, .inr (4, [.ref qy1, .ref qy2, .ref qy3, .ref qy4, .int zM, .ref qy5, .ref qy6, .int zH, .ref qy7, .int zT, .long bg])), (qy1, .inl (cI, 40, .inl Mt)), (qy2, .inl (cI, 40, .inl Ms)), (qy3, .inl (cI, 40, .inl Mf)), (qy4, .inl (cI, 40, .inl Ml)), (qy5, .inl (cI, 20, .inl Ht)), (qy6, .inl (cI, 20, .inl Hu)), (qy7, .inl (cL, 40, .inr (.inl Tp)))] sz)) (va_Ql (fun (r : Int64) (u : Unit) => ((p0.toInt < 0 ∨ 1000000 < p0.toInt) ∧ r.toInt = -2) ∨ ((0 ≤ p0.toInt ∧ p0.toInt ≤ 1000000) ∧ r.toInt = Bg (paceF Mt Ms Mf Ml nm) Ht Hu nh p0.toInt.toNat)) (fun (u : Unit) t => va_P G vwCl [(qy, .inr (4, [.ref qy1, .ref qy2, .ref qy3, .ref qy4, .int zM, .ref qy5, .ref qy6, .int zH, .ref qy7, .int zT, .long bg])), (qy1, .inl (cI, 40, .inl Mt)), (qy2, .inl (cI, 40, .inl Ms)), (qy3, .inl (cI, 40, .inl Mf)), (qy4, .inl (cI, 40, .inl Ml)), (qy5, .inl (cI, 20, .inl Ht)), (qy6, .inl (cI, 20, .inl Hu)), (qy7, .inl (cL, 40, .inr (.inl Tp)))] t.heap ∧ va_D (va_A [(qy, .inr (4, [.ref qy1, .ref qy2, .ref qy3, .ref qy4, .int zM, .ref qy5, .ref qy6, .int zH, .ref qy7, .int zT, .long bg])), (qy1, .inl (cI, 40, .inl Mt)), (qy2, .inl (cI, 40, .inl Ms)), (qy3, .inl (cI, 40, .inl Mf)), (qy4, .inl (cI, 40, .inl Ml)), (qy5, .inl (cI, 20, .inl Ht)), (qy6, .inl (cI, 20, .inl Hu)), (qy7, .inl (cL, 40, .inr (.inl Tp)))] sz) [(qy, .inr (4, [.ref qy1, .ref qy2, .ref qy3, .ref qy4, .int zM, .ref qy5, .ref qy6, .int zH, .ref qy7, .int zT, .long bg])), (qy1, .inl (cI, 40, .inl Mt)), (qy2, .inl (cI, 40, .inl Ms)), (qy3, .inl (cI, 40, .inl Mf)), (qy4, .inl (cI, 40, .inl Ml)), (qy5, .inl (cI, 20, .inl Ht)), (qy6, .inl (cI, 20, .inl Hu)), (qy7, .inl (cL, 40, .inr (.inl Tp)))]) (va_A [(qy, .inr (4, [.ref qy1, .ref qy2, .ref qy3, .ref qy4, .int zM, .ref qy5, .ref qy6, .int zH, .ref qy7, .int zT, .long bg])), (qy1, .inl (cI, 40, .inl Mt)), (qy2, .inl (cI, 40, .inl Ms)), (qy3, .inl (cI, 40, .inl Mf)), (qy4, .inl (cI, 40, .inl Ml)), (qy5, .inl (cI, 20, .inl Ht)), (qy6, .inl (cI, 20, .inl Hu)), (qy7, .inl (cL, 40, .inr (.inl Tp)))] sz)) 0 0 (va_A [(qy, .inr (4, [.ref qy1, .ref qy2, .ref qy3, .ref qy4, .int zM, .ref qy5, .ref qy6, .int zH, .ref qy7, .int zT, .long bg])), (qy1, .inl (cI, 40, .inl Mt)), (qy2, .inl (cI, 40, .inl Ms)), (qy3, .inl (cI, 40, .inl Mf)), (qy4, .inl (cI, 40, .inl Ml)), (qy5, .inl (cI, 20, .inl Ht)), (qy6, .inl (cI, 20, .inl Hu)), (qy7, .inl (cL, 40, .inr (.inl Tp)))] sz) := by
  refine Met.ofW (cc := cX4_time) (maxL := 6) (ret := (some .long)) (by decide) rfl ?_
  intro p e s m args below meth c s₁ B hml hv
  obtain ⟨rfl, hsz, hP, hK, hD0, hN⟩ := hv
  have hx := B.exec
  have hb := B.bytes
  have hr := B.returns
  have hts := atoms_spec (ws := wsX4_time) B.pre
  have hown : s.vm.findClass RX4 = some m.cls := findClass_of_methodNamed B.named
  have hlocks := B.notSynchronized
  subst hsz
  have hD := hD0.self (sz := s.heap.size)
  generalize hAe : va_A [(qy, .inr (4, [.ref qy1, .ref qy2, .ref qy3, .ref qy4, .int zM, .ref qy5, .ref qy6, .int zH, .ref qy7, .int zT, .long bg])), (qy1, .inl (cI, 40, .inl Mt)), (qy2, .inl (cI, 40, .inl Ms)), (qy3, .inl (cI, 40, .inl Mf)), (qy4, .inl (cI, 40, .inl Ml)), (qy5, .inl (cI, 20, .inl Ht)), (qy6, .inl (cI, 20, .inl Hu)), (qy7, .inl (cL, 40, .inr (.inl Tp)))] s.heap.size = A at hD ⊢
  have hA : ∀ q : Nat, s.heap.size ≤ q → A q := fun q h => by rw [← hAe]; exact Or.inr h
  have hP : va_P G vwCl [(qy, .inr (4, [.ref qy1, .ref qy2, .ref qy3, .ref qy4, .int zM, .ref qy5, .ref qy6, .int zH, .ref qy7, .int zT, .long bg])), (qy1, .inl (cI, 40, .inl Mt)), (qy2, .inl (cI, 40, .inl Ms)), (qy3, .inl (cI, 40, .inl Mf)), (qy4, .inl (cI, 40, .inl Ml)), (qy5, .inl (cI, 20, .inl Ht)), (qy6, .inl (cI, 20, .inl Hu)), (qy7, .inl (cL, 40, .inr (.inl Tp)))] s.heap := hP
  have hl := lv_entry ([.ref qy, .int p0]) (n := 6) (Nat.le_of_ble_eq_true rfl)
  rw [lg_entry_eq]
  generalize (lg_sl ([.ref qy, .int p0]) ++ List.replicate (6 - (lg_sl ([.ref qy, .int p0])).length) Slot.unset).toArray = ls at hl ⊢
  have hl : lv_has ls 6 [(0, .ref qy), (1, .int p0)] := hl
  have hf67 := hts (.fieldLink RX4 67 "TempoMapsModel" "holds" "I") (by decide +kernel)
  have hf22 := hts (.fieldLink RX4 22 "TempoMapsModel" "holdTick" "[I") (by decide +kernel)
  have hf25 := hts (.fieldLink RX4 25 "TempoMapsModel" "holdUnits" "[I") (by decide +kernel)
  have hiX4 : ∀ w ∈ wsX40, w ∈ wsX4_time := by decide +kernel
  have zi0 : ((0 : Int32)).toInt = 0 := by decide
  have zi1 : ((1 : Int32)).toInt = 1 := by decide
  have zlm2 : ((-2 : Int64)).toInt = -2 := by decide
  have zl0 : ((0 : Int64)).toInt = 0 := by decide
  have zl1000000 : ((1000000 : Int64)).toInt = 1000000 := by decide
  refine w_h (A := A) hP (fun H locs hP hS => ?_)
  have hn40 := hOM.1
  have hrg := hOM.2.1
  have hn20 := hOH.1
  have hrh := hOH.2.1
  have hn41 := hOT.1
  have hrt := hOT.2.1
  have zz0 : ((0 : Int32)).toInt = 0 := by decide
  refine lv_iload_n hx hb dX4_time_0 rfl (lv_at hl 1 rfl) ?_
  refine lv_i2l hx hb dX4_time_1 rfl ?_
  refine lv_topl (fun x1 ex1 => ?_)
  have tx1 : x1.toInt = p0.toInt := by rw [ex1]; exact tc_i2l rfl
  refine lv_lconst (v := 0) hx hb dX4_time_2 (by decide) ?_
  refine lv_ldc2 (v := 1000000) hx hb hown (hts (.constantLong RX4 53 1000000) (by decide +kernel)) dX4_time_3 ?_
  have hPc := hP.sub (ws' := ([] : va_W)) [] rfl
  have hDc := hD.sub (ws' := ([] : va_W)) [] (by decide) rfl
  have hcc := (ct_X4_in l G cI cL H.size x1 0 1000000)
  refine ro_calli (va_runS (As := [.long x1, .long 0, .long 1000000]) (rest := []) ⟨hx, hb, hml, hown, hts⟩ hcc (va_cwS 3 hts gX4_time_X4_in rfl rfl rfl (by decide +kernel) ⟨Nat.le_of_ble_eq_true rfl, Nat.le_of_ble_eq_true rfl⟩) ⟨pre_blind, pre_pass hK hN hPc hDc⟩ rfl rfl hl.1 rfl (lv_room (Nat.le_of_ble_eq_true rfl)) dX4_time_6 ⟨Nat.le_of_ble_eq_true rfl, Nat.le_of_ble_eq_true rfl⟩) hP hD hS hA [] rfl (fun r6 H locs hw6 hP hS => ?_)
  try dsimp only at hw6
  refine lv_if_ne (tgt := 16) hx hb dX4_time_9 (by decide) (fun c9 => ?_) (fun c9 => ?_)
  · have k9 : (r6.toInt : Int) ≠ 0 := i_ne rfl (show ((0 : Int32)).toInt = 0 by decide) c9
    refine lv_lconst (v := 0) hx hb dX4_time_16 (by decide) ?_
    refine lv_lstore_n (lv' := [(2, .long 0), (0, .ref qy), (1, .int p0)]) hx hb dX4_time_17 rfl hl (by decide) rfl (fun ls hl => ?_)
    refine lv_iconst (v := 0) hx hb dX4_time_18 (by decide) ?_
    refine lv_istore (lv' := [(4, .int 0), (2, .long 0), (0, .ref qy), (1, .int p0)]) hx hb dX4_time_19  hl (by decide) rfl (fun ls hl => ?_)
    refine W_loop2 (fun (v2 : Int64) (v4 : Int32) ls H locs => va_P G vwCl [(qy, .inr (4, [.ref qy1, .ref qy2, .ref qy3, .ref qy4, .int zM, .ref qy5, .ref qy6, .int zH, .ref qy7, .int zT, .long bg])), (qy1, .inl (cI, 40, .inl Mt)), (qy2, .inl (cI, 40, .inl Ms)), (qy3, .inl (cI, 40, .inl Mf)), (qy4, .inl (cI, 40, .inl Ml)), (qy5, .inl (cI, 20, .inl Ht)), (qy6, .inl (cI, 20, .inl Hu)), (qy7, .inl (cL, 40, .inr (.inl Tp)))] H ∧ va_D A [(qy, .inr (4, [.ref qy1, .ref qy2, .ref qy3, .ref qy4, .int zM, .ref qy5, .ref qy6, .int zH, .ref qy7, .int zT, .long bg])), (qy1, .inl (cI, 40, .inl Mt)), (qy2, .inl (cI, 40, .inl Ms)), (qy3, .inl (cI, 40, .inl Mf)), (qy4, .inl (cI, 40, .inl Ml)), (qy5, .inl (cI, 20, .inl Ht)), (qy6, .inl (cI, 20, .inl Hu)), (qy7, .inl (cL, 40, .inr (.inl Tp)))] ∧ va_S A s.heap H locs ∧ lv_has ls 6 [(0, .ref qy), (1, .int p0), (2, .long v2), (4, .int v4)] ∧ (0 ≤ v4.toInt ∧ v4.toInt ≤ p0.toInt) ∧ (v2.toInt = psum (paceF Mt Ms Mf Ml nm) v4.toInt.toNat)) (fun (v2 : Int64) (v4 : Int32) => (p0.toInt - v4.toInt).toNat) (fun v2 v4 ls H locs hI ih21 => ?_) (0 : Int64) (0 : Int32) ls _ _ ⟨hP, hD, hS, lv_sub hl [2, 3, 1, 0] rfl, (show 0 ≤ (0 : Int32).toInt ∧ (0 : Int32).toInt ≤ p0.toInt from by omega), (show (0 : Int64).toInt = psum (paceF Mt Ms Mf Ml nm) (0 : Int32).toInt.toNat from by rw [zi0]; exact zl0)⟩
    obtain ⟨hP, hD, hS, hl, i1, i2⟩ := hI
    refine lv_iload hx hb dX4_time_21 (lv_at hl 3 rfl) ?_
    refine lv_iload_n hx hb dX4_time_23 rfl (lv_at hl 1 rfl) ?_
    refine lv_icmp_ge (tgt := 60) hx hb dX4_time_24 (by decide) (fun c24 => ?_) (fun c24 => ?_)
    · have k24 : (p0.toInt : Int) ≤ v4.toInt := i_le rfl rfl c24
      refine lv_iconst (v := 0) hx hb dX4_time_60 (by decide) ?_
      refine lv_istore (lv' := [(5, .int 0), (0, .ref qy), (1, .int p0), (2, .long v2), (4, .int v4)]) hx hb dX4_time_61  hl (by decide) rfl (fun ls hl => ?_)
      refine W_loop2 (fun (w2 : Int64) (w5 : Int32) ls H locs => va_P G vwCl [(qy, .inr (4, [.ref qy1, .ref qy2, .ref qy3, .ref qy4, .int zM, .ref qy5, .ref qy6, .int zH, .ref qy7, .int zT, .long bg])), (qy1, .inl (cI, 40, .inl Mt)), (qy2, .inl (cI, 40, .inl Ms)), (qy3, .inl (cI, 40, .inl Mf)), (qy4, .inl (cI, 40, .inl Ml)), (qy5, .inl (cI, 20, .inl Ht)), (qy6, .inl (cI, 20, .inl Hu)), (qy7, .inl (cL, 40, .inr (.inl Tp)))] H ∧ va_D A [(qy, .inr (4, [.ref qy1, .ref qy2, .ref qy3, .ref qy4, .int zM, .ref qy5, .ref qy6, .int zH, .ref qy7, .int zT, .long bg])), (qy1, .inl (cI, 40, .inl Mt)), (qy2, .inl (cI, 40, .inl Ms)), (qy3, .inl (cI, 40, .inl Mf)), (qy4, .inl (cI, 40, .inl Ml)), (qy5, .inl (cI, 20, .inl Ht)), (qy6, .inl (cI, 20, .inl Hu)), (qy7, .inl (cL, 40, .inr (.inl Tp)))] ∧ va_S A s.heap H locs ∧ lv_has ls 6 [(0, .ref qy), (1, .int p0), (2, .long w2), (5, .int w5)] ∧ (0 ≤ w5.toInt ∧ w5.toInt ≤ nh) ∧ (w2.toInt = psum (paceF Mt Ms Mf Ml nm) p0.toInt.toNat + hsum Ht Hu p0.toInt w5.toInt.toNat)) (fun (w2 : Int64) (w5 : Int32) => (nh - w5.toInt).toNat) (fun w2 w5 ls H locs hI ih63 => ?_) v2 (0 : Int32) ls _ _ ⟨hP, hD, hS, lv_sub hl [1, 2, 3, 0] rfl, (show 0 ≤ (0 : Int32).toInt ∧ (0 : Int32).toInt ≤ nh from by omega), (show v2.toInt = psum (paceF Mt Ms Mf Ml nm) p0.toInt.toNat + hsum Ht Hu p0.toInt (0 : Int32).toInt.toNat from by rw [zi0, i2, show v4.toInt.toNat = p0.toInt.toNat by omega]; simp [hsum])⟩
      obtain ⟨hP, hD, hS, hl, j1, j2⟩ := hI
      have hb9 := hsum_rng (t := Ht) (u := Hu) (x := p0.toInt) w5.toInt.toNat (fun k hk => by have := hrh k (by omega); omega)
      have pu := psum_rng (P := paceF Mt Ms Mf Ml nm) p0.toInt.toNat (fun y _ => pace_rng hOM y)
      refine lv_iload hx hb dX4_time_63 (lv_at hl 3 rfl) ?_
      refine lv_aload_n hx hb dX4_time_65 rfl (lv_at hl 0 rfl) ?_
      refine va_get (D := G) (ci := 4) (v := .int zH) (C := RX4) (T := TX4) (N := 11) hx hb hts hiX4 hown hK hP 0 rfl rfl 7 (by decide) hf67 (fun _ h9 => h9) rfl dX4_time_66 ?_
      refine lv_icmp_ge (tgt := 104) hx hb dX4_time_69 (by decide) (fun c69 => ?_) (fun c69 => ?_)
      · have k69 : (zH.toInt : Int) ≤ w5.toInt := i_le rfl rfl c69
        refine lv_lload_n hx hb dX4_time_104 rfl (lv_at hl 2 rfl) ?_
        exact W.lret (v := w2) hx hb hr (fun t ht hW => ⟨⟨w2, (), rfl, (by (try dsimp only); exact (Or.inr ⟨by omega, by unfold Bg; rw [show ((p0.toInt.toNat : Nat) : Int) = p0.toInt by omega, j2, show w5.toInt.toNat = nh by omega]⟩)), by rw [ht]; exact hP, hD⟩, hS.F ht⟩) hS.2.2 dX4_time_105
      · have k69 : (w5.toInt : Int) < zH.toInt := i_nle rfl rfl c69
        refine lv_lload_n hx hb dX4_time_72 rfl (lv_at hl 2 rfl) ?_
        refine lv_aload_n hx hb dX4_time_73 rfl (lv_at hl 0 rfl) ?_
        refine va_get (D := G) (ci := 4) (v := .ref qy5) (C := RX4) (T := TX4) (N := 11) hx hb hts hiX4 hown hK hP 0 rfl rfl 5 (by decide) hf22 (fun _ h9 => h9) rfl dX4_time_74 ?_
        refine lv_iload hx hb dX4_time_77 (lv_at hl 3 rfl) ?_
        refine va_iald hx hb hK hP 5 0 rfl rfl (vi_in rfl (by omega) (by omega)) dX4_time_79 ?_
        refine lv_topi (fun x79 ex79 => ?_)
        have ex79 : x79 = Ht w5.toInt.toNat := by rw [ex79]; exact congrArg _ (cl_nat rfl (by omega))
        have tx79 : x79.toInt = (Ht w5.toInt.toNat).toInt := by rw [ex79]
        have hrh_x79 := hrh w5.toInt.toNat (by omega)
        refine lv_iload_n hx hb dX4_time_80 rfl (lv_at hl 1 rfl) ?_
        refine lv_icmp_gt (tgt := 95) hx hb dX4_time_81 (by decide) (fun c81 => ?_) (fun c81 => ?_)
        · have k81 : (p0.toInt : Int) < x79.toInt := i_lt rfl rfl c81
          refine lv_lconst (v := 0) hx hb dX4_time_95 (by decide) ?_
          refine lv_ladd hx hb dX4_time_96 ?_
          refine lv_topl (fun x96 ex96 => ?_)
          have tx96 : x96.toInt = w2.toInt + 0 := by rw [ex96]; exact tl_add rfl (show ((0 : Int64)).toInt = 0 by decide) (by omega) (by omega)
          refine lv_lstore_n (lv' := [(2, .long x96), (0, .ref qy), (1, .int p0), (5, .int w5)]) hx hb dX4_time_97 rfl hl (by decide) rfl (fun ls hl => ?_)
          obtain ⟨x98, ex98⟩ : ∃ y : Int32, y = w5 + 1 := ⟨_, rfl⟩
          have tx98 : x98.toInt = w5.toInt + 1 := by rw [ex98]; exact ti_add rfl (by decide) (by omega) (by omega)
          refine lv_iinc (v := x98) (lv' := [(5, .int x98), (2, .long x96), (0, .ref qy), (1, .int p0)]) hx hb dX4_time_98 hl (k := 3) rfl (by rw [ex98]; rfl) (by decide) rfl (fun ls hl => ?_)
          refine lv_goto (tgt := 63) hx hb dX4_time_101 (by decide) ?_
          exact ih63 x96 x98 ls _ _ ⟨hP, hD, hS, lv_sub hl [2, 3, 1, 0] rfl, (show 0 ≤ x98.toInt ∧ x98.toInt ≤ nh from by omega), (show x96.toInt = psum (paceF Mt Ms Mf Ml nm) p0.toInt.toNat + hsum Ht Hu p0.toInt x98.toInt.toNat from by rw [show x98.toInt.toNat = w5.toInt.toNat + 1 by omega]; simp only [hsum]; (first | rw [if_pos (by omega)] | rw [if_neg (by omega)]); omega)⟩ (show (nh - x98.toInt).toNat < (nh - w5.toInt).toNat from by omega)
        · have k81 : (x79.toInt : Int) ≤ p0.toInt := i_nlt rfl rfl c81
          refine lv_aload_n hx hb dX4_time_84 rfl (lv_at hl 0 rfl) ?_
          refine va_get (D := G) (ci := 4) (v := .ref qy6) (C := RX4) (T := TX4) (N := 11) hx hb hts hiX4 hown hK hP 0 rfl rfl 6 (by decide) hf25 (fun _ h9 => h9) rfl dX4_time_85 ?_
          refine lv_iload hx hb dX4_time_88 (lv_at hl 3 rfl) ?_
          refine va_iald hx hb hK hP 6 0 rfl rfl (vi_in rfl (by omega) (by omega)) dX4_time_90 ?_
          refine lv_topi (fun x90 ex90 => ?_)
          have ex90 : x90 = Hu w5.toInt.toNat := by rw [ex90]; exact congrArg _ (cl_nat rfl (by omega))
          have tx90 : x90.toInt = (Hu w5.toInt.toNat).toInt := by rw [ex90]
          have hrh_x90 := hrh w5.toInt.toNat (by omega)
          refine lv_i2l hx hb dX4_time_91 rfl ?_
          refine lv_topl (fun x91 ex91 => ?_)
          have tx91 : x91.toInt = x90.toInt := by rw [ex91]; exact tc_i2l rfl
          refine lv_goto (tgt := 96) hx hb dX4_time_92 (by decide) ?_
          refine lv_ladd hx hb dX4_time_96 ?_
          refine lv_topl (fun x96_2 ex96_2 => ?_)
          have tx96_2 : x96_2.toInt = w2.toInt + x90.toInt := by rw [ex96_2]; exact tl_add rfl tx91 (by omega) (by omega)
          refine lv_lstore_n (lv' := [(2, .long x96_2), (0, .ref qy), (1, .int p0), (5, .int w5)]) hx hb dX4_time_97 rfl hl (by decide) rfl (fun ls hl => ?_)
          obtain ⟨x98_2, ex98_2⟩ : ∃ y : Int32, y = w5 + 1 := ⟨_, rfl⟩
          have tx98_2 : x98_2.toInt = w5.toInt + 1 := by rw [ex98_2]; exact ti_add rfl (by decide) (by omega) (by omega)
          refine lv_iinc (v := x98_2) (lv' := [(5, .int x98_2), (2, .long x96_2), (0, .ref qy), (1, .int p0)]) hx hb dX4_time_98 hl (k := 3) rfl (by rw [ex98_2]; rfl) (by decide) rfl (fun ls hl => ?_)
          refine lv_goto (tgt := 63) hx hb dX4_time_101 (by decide) ?_
          exact ih63 x96_2 x98_2 ls _ _ ⟨hP, hD, hS, lv_sub hl [2, 3, 1, 0] rfl, (show 0 ≤ x98_2.toInt ∧ x98_2.toInt ≤ nh from by omega), (show x96_2.toInt = psum (paceF Mt Ms Mf Ml nm) p0.toInt.toNat + hsum Ht Hu p0.toInt x98_2.toInt.toNat from by rw [show x98_2.toInt.toNat = w5.toInt.toNat + 1 by omega]; simp only [hsum]; (first | rw [if_pos (by omega)] | rw [if_neg (by omega)]); omega)⟩ (show (nh - x98_2.toInt).toNat < (nh - w5.toInt).toNat from by omega)
    · have k24 : (v4.toInt : Int) < p0.toInt := i_nle rfl rfl c24
      refine lv_aload_n hx hb dX4_time_27 rfl (lv_at hl 0 rfl) ?_
      refine lv_iload hx hb dX4_time_28 (lv_at hl 3 rfl) ?_
      refine lv_iload_n hx hb dX4_time_30 rfl (lv_at hl 1 rfl) ?_
      have hPc := hP.sub (ws' := [(qy, .inr (4, [.ref qy1, .ref qy2, .ref qy3, .ref qy4, .int zM, .ref qy5, .ref qy6, .int zH, .ref qy7, .int zT, .long bg])), (qy1, .inl (cI, 40, .inl Mt)), (qy2, .inl (cI, 40, .inl Ms)), (qy3, .inl (cI, 40, .inl Mf)), (qy4, .inl (cI, 40, .inl Ml)), (qy5, .inl (cI, 20, .inl Ht)), (qy6, .inl (cI, 20, .inl Hu)), (qy7, .inl (cL, 40, .inr (.inl Tp)))]) [0, 1, 2, 3, 4, 5, 6, 7] rfl
      have hDc := hD.sub (ws' := [(qy, .inr (4, [.ref qy1, .ref qy2, .ref qy3, .ref qy4, .int zM, .ref qy5, .ref qy6, .int zH, .ref qy7, .int zT, .long bg])), (qy1, .inl (cI, 40, .inl Mt)), (qy2, .inl (cI, 40, .inl Ms)), (qy3, .inl (cI, 40, .inl Mf)), (qy4, .inl (cI, 40, .inl Ml)), (qy5, .inl (cI, 20, .inl Ht)), (qy6, .inl (cI, 20, .inl Hu)), (qy7, .inl (cL, 40, .inr (.inl Tp)))]) [0, 1, 2, 3, 4, 5, 6, 7] (by decide) rfl
      have hcc := (ct_X4_alikeTo l G cI cL H.size qy qy1 qy2 qy3 qy4 qy5 qy6 qy7 zM zH zT bg Mt Ms Mf Ml Ht Hu Tp v4 p0 nm hnM hOM nh hnH hOH nt hnT hOT (by omega))
      refine ro_calli (va_runV (As := [.int v4, .int p0]) (rest := []) ⟨hx, hb, hml, hown, hts⟩ hcc (cwV 2 hts gX4_time_X4_alikeTo rfl rfl rfl (by decide +kernel) ⟨Nat.le_of_ble_eq_true rfl, Nat.le_of_ble_eq_true rfl⟩) ⟨pre_blind, va_recv hK hPc (ci := 4) (q0 := 0) rfl rfl, pre_pass hK hN hPc hDc⟩ rfl rfl hl.1 rfl (lv_room (Nat.le_of_ble_eq_true rfl)) dX4_time_31 ⟨Nat.le_of_ble_eq_true rfl, Nat.le_of_ble_eq_true rfl⟩) hP hD hS hA [0, 1, 2, 3, 4, 5, 6, 7] rfl (fun r31 H locs hw31 hP hS => ?_)
      try dsimp only at hw31
      refine lv_istore (lv' := [(5, .int r31), (0, .ref qy), (1, .int p0), (2, .long v2), (4, .int v4)]) hx hb dX4_time_34  hl (by decide) rfl (fun ls hl => ?_)
      refine lv_lload_n hx hb dX4_time_36 rfl (lv_at hl 3 rfl) ?_
      refine lv_iload hx hb dX4_time_37 (lv_at hl 0 rfl) ?_
      refine lv_iload hx hb dX4_time_39 (lv_at hl 4 rfl) ?_
      refine lv_isub hx hb dX4_time_41 ?_
      refine lv_topi (fun x41 ex41 => ?_)
      have tx41 : x41.toInt = r31.toInt - v4.toInt := by rw [ex41]; exact ti_sub rfl rfl (by omega) (by omega)
      refine lv_i2l hx hb dX4_time_42 rfl ?_
      refine lv_topl (fun x42 ex42 => ?_)
      have tx42 : x42.toInt = x41.toInt := by rw [ex42]; exact tc_i2l rfl
      refine lv_aload_n hx hb dX4_time_43 rfl (lv_at hl 1 rfl) ?_
      refine lv_iload hx hb dX4_time_44 (lv_at hl 4 rfl) ?_
      have hPc := hP.sub (ws' := [(qy, .inr (4, [.ref qy1, .ref qy2, .ref qy3, .ref qy4, .int zM, .ref qy5, .ref qy6, .int zH, .ref qy7, .int zT, .long bg])), (qy1, .inl (cI, 40, .inl Mt)), (qy2, .inl (cI, 40, .inl Ms)), (qy3, .inl (cI, 40, .inl Mf)), (qy4, .inl (cI, 40, .inl Ml)), (qy5, .inl (cI, 20, .inl Ht)), (qy6, .inl (cI, 20, .inl Hu)), (qy7, .inl (cL, 40, .inr (.inl Tp)))]) [0, 1, 2, 3, 4, 5, 6, 7] rfl
      have hDc := hD.sub (ws' := [(qy, .inr (4, [.ref qy1, .ref qy2, .ref qy3, .ref qy4, .int zM, .ref qy5, .ref qy6, .int zH, .ref qy7, .int zT, .long bg])), (qy1, .inl (cI, 40, .inl Mt)), (qy2, .inl (cI, 40, .inl Ms)), (qy3, .inl (cI, 40, .inl Mf)), (qy4, .inl (cI, 40, .inl Ml)), (qy5, .inl (cI, 20, .inl Ht)), (qy6, .inl (cI, 20, .inl Hu)), (qy7, .inl (cL, 40, .inr (.inl Tp)))]) [0, 1, 2, 3, 4, 5, 6, 7] (by decide) rfl
      have hcc := (ct_X4_paceAt l G cI cL H.size qy qy1 qy2 qy3 qy4 qy5 qy6 qy7 zM zH zT bg Mt Ms Mf Ml Ht Hu Tp v4 nm hnM hOM nh hnH hOH nt hnT hOT (by omega))
      refine ro_calli (va_runV (As := [.int v4]) (rest := [.long x42, .long v2]) ⟨hx, hb, hml, hown, hts⟩ hcc (cwV 1 hts gX4_time_X4_paceAt rfl rfl rfl (by decide +kernel) ⟨Nat.le_of_ble_eq_true rfl, Nat.le_of_ble_eq_true rfl⟩) ⟨pre_blind, va_recv hK hPc (ci := 4) (q0 := 0) rfl rfl, pre_pass hK hN hPc hDc⟩ rfl rfl hl.1 rfl (lv_room (Nat.le_of_ble_eq_true rfl)) dX4_time_46 ⟨Nat.le_of_ble_eq_true rfl, Nat.le_of_ble_eq_true rfl⟩) hP hD hS hA [0, 1, 2, 3, 4, 5, 6, 7] rfl (fun r46 H locs hw46 hP hS => ?_)
      try dsimp only at hw46
      refine lv_i2l hx hb dX4_time_49 rfl ?_
      refine lv_topl (fun x49 ex49 => ?_)
      have tx49 : x49.toInt = r46.toInt := by rw [ex49]; exact tc_i2l rfl
      have pr := pace_rng hOM v4.toInt
      have b50 := mul_bnd (show 0 ≤ x41.toInt ∧ x41.toInt ≤ 1000000 by omega) (show 0 ≤ r46.toInt ∧ r46.toInt ≤ 1000000 by omega)
      have pu := psum_rng (P := paceF Mt Ms Mf Ml nm) v4.toInt.toNat (fun y _ => pace_rng hOM y)
      refine lv_lmul hx hb dX4_time_50 ?_
      refine lv_topl (fun x50 ex50 => ?_)
      have tx50 : x50.toInt = x41.toInt * r46.toInt := by rw [ex50]; exact tl_mul tx42 tx49 (by omega) (by omega)
      refine lv_ladd hx hb dX4_time_51 ?_
      refine lv_topl (fun x51 ex51 => ?_)
      have tx51 : x51.toInt = v2.toInt + x50.toInt := by rw [ex51]; exact tl_add rfl rfl (by omega) (by omega)
      refine lv_lstore_n (lv' := [(2, .long x51), (5, .int r31), (0, .ref qy), (1, .int p0), (4, .int v4)]) hx hb dX4_time_52 rfl hl (by decide) rfl (fun ls hl => ?_)
      refine lv_iload hx hb dX4_time_53 (lv_at hl 1 rfl) ?_
      refine lv_istore (lv' := [(4, .int r31), (2, .long x51), (5, .int r31), (0, .ref qy), (1, .int p0)]) hx hb dX4_time_55  hl (by decide) rfl (fun ls hl => ?_)
      refine lv_goto (tgt := 21) hx hb dX4_time_57 (by decide) ?_
      exact ih21 x51 r31 ls _ _ ⟨hP, hD, hS, lv_sub hl [3, 4, 1, 0] rfl, (show 0 ≤ r31.toInt ∧ r31.toInt ≤ p0.toInt from by omega), (show x51.toInt = psum (paceF Mt Ms Mf Ml nm) r31.toInt.toNat from by rw [psum_flat (P := paceF Mt Ms Mf Ml nm) (a := v4.toInt.toNat) (b := r31.toInt.toNat) (c := r46.toInt) (by omega) (fun y h1 h2 => by rw [hw46]; exact hw31.2.2 y (by omega) (by omega)), ← i2, tx51, tx50, tx41, Int.mul_comm, show ((r31.toInt.toNat : Nat) : Int) - ((v4.toInt.toNat : Nat) : Int) = r31.toInt - v4.toInt by omega])⟩ (show (p0.toInt - r31.toInt).toNat < (p0.toInt - v4.toInt).toNat from by omega)
  · have k9 : (r6.toInt : Int) = 0 := i_eq rfl (show ((0 : Int32)).toInt = 0 by decide) c9
    refine lv_ldc2 (v := (-2)) hx hb hown (hts (.constantLong RX4 86 (-2)) (by decide +kernel)) dX4_time_12 ?_
    exact W.lret (v := (-2)) hx hb hr (fun t ht hW => ⟨⟨(-2), (), rfl, (by (try dsimp only); exact (Or.inl ⟨by omega, by omega⟩)), by rw [ht]; exact hP, hD⟩, hS.F ht⟩) hS.2.2 dX4_time_15

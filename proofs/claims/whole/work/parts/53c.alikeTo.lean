set_option maxHeartbeats 1000000 in
set_option maxRecDepth 100000 in
theorem ct_X4_alikeTo (l : Launch) (G : va_G) (cI cL : ClassId) (sz : Nat) (qy : Nat) (qy1 : Nat) (qy2 : Nat) (qy3 : Nat) (qy4 : Nat) (qy5 : Nat) (qy6 : Nat) (qy7 : Nat) (zM : Int32) (zH : Int32) (zT : Int32) (bg : Int64) (Mt : Nat → Int32) (Ms : Nat → Int32) (Mf : Nat → Int32) (Ml : Nat → Int32) (Ht : Nat → Int32) (Hu : Nat → Int32) (Tp : Nat → Int64) (p0 : Int32) (p1 : Int32) (nm : Nat) (hnM : zM.toInt = nm) (hOM : okM nm Mt Ms Mf Ml) (nh : Nat) (hnH : zH.toInt = nh) (hOH : okH nh Ht Hu) (nt : Nat) (hnT : zT.toInt = nt) (hOT : okT nt Tp) (hp : 0 ≤ p0.toInt ∧ p0.toInt < p1.toInt ∧ p1.toInt ≤ 1000000) : Met l yX4_alikeTo wsX4_alikeTo ({ frames := 1, cells := 0, slots := 0, locals := 23 }) (va_Pc [.ref qy, .int p0, .int p1] (pre0 G cI cL [(qy, .inr (4, [.ref qy1, .ref qy2, .ref qy3, .ref qy4, .int zM, .ref qy5, .ref qy6, .int zH, .ref qy7, .int zT, .long bg])), (qy1, .inl (cI, 40, .inl Mt)), (qy2, .inl (cI, 40, .inl Ms)), (qy3, .inl (cI, 40, .inl Mf)), (qy4, .inl (cI, 40, .inl Ml)), (qy5, .inl (cI, 20, .inl Ht)), (qy6, .inl (cI, 20, .inl Hu)), (qy7, .inl (cL, 40, .inr (.inl Tp)))] sz)) (va_Qi (fun (r : Int32) (u : Unit) => p0.toInt < r.toInt ∧ r.toInt ≤ p1.toInt ∧ ∀ y : Int, p0.toInt ≤ y → y < r.toInt → paceF Mt Ms Mf Ml nm y = paceF Mt Ms Mf Ml nm p0.toInt) (fun (u : Unit) t => va_P G vwCl [(qy, .inr (4, [.ref qy1, .ref qy2, .ref qy3, .ref qy4, .int zM, .ref qy5, .ref qy6, .int zH, .ref qy7, .int zT, .long bg])), (qy1, .inl (cI, 40, .inl Mt)), (qy2, .inl (cI, 40, .inl Ms)), (qy3, .inl (cI, 40, .inl Mf)), (qy4, .inl (cI, 40, .inl Ml)), (qy5, .inl (cI, 20, .inl Ht)), (qy6, .inl (cI, 20, .inl Hu)), (qy7, .inl (cL, 40, .inr (.inl Tp)))] t.heap ∧ va_D (va_A [(qy, .inr (4, [.ref qy1, .ref qy2, .ref qy3, .ref qy4, .int zM, .ref qy5, .ref qy6, .int zH, .ref qy7, .int zT, .long bg])), (qy1, .inl (cI, 40, .inl Mt)), (qy2, .inl (cI, 40, .inl Ms)), (qy3, .inl (cI, 40, .inl Mf)), (qy4, .inl (cI, 40, .inl Ml)), (qy5, .inl (cI, 20, .inl Ht)), (qy6, .inl (cI, 20, .inl Hu)), (qy7, .inl (cL, 40, .inr (.inl Tp)))] sz) [(qy, .inr (4, [.ref qy1, .ref qy2, .ref qy3, .ref qy4, .int zM, .ref qy5, .ref qy6, .int zH, .ref qy7, .int zT, .long bg])), (qy1, .inl (cI, 40, .inl Mt)), (qy2, .inl (cI, 40, .inl Ms)), (qy3, .inl (cI, 40, .inl Mf)), (qy4, .inl (cI, 40, .inl Ml)), (qy5, .inl (cI, 20, .inl Ht)), (qy6, .inl (cI, 20, .inl Hu)), (qy7, .inl (cL, 40, .inr (.inl Tp)))]) (va_A [(qy, .inr (4, [.ref qy1, .ref qy2, .ref qy3, .ref qy4, .int zM, .ref qy5, .ref qy6, .int zH, .ref qy7, .int zT, .long bg])), (qy1, .inl (cI, 40, .inl Mt)), (qy2, .inl (cI, 40, .inl Ms)), (qy3, .inl (cI, 40, .inl Mf)), (qy4, .inl (cI, 40, .inl Ml)), (qy5, .inl (cI, 20, .inl Ht)), (qy6, .inl (cI, 20, .inl Hu)), (qy7, .inl (cL, 40, .inr (.inl Tp)))] sz)) 0 0 (va_A [(qy, .inr (4, [.ref qy1, .ref qy2, .ref qy3, .ref qy4, .int zM, .ref qy5, .ref qy6, .int zH, .ref qy7, .int zT, .long bg])), (qy1, .inl (cI, 40, .inl Mt)), (qy2, .inl (cI, 40, .inl Ms)), (qy3, .inl (cI, 40, .inl Mf)), (qy4, .inl (cI, 40, .inl Ml)), (qy5, .inl (cI, 20, .inl Ht)), (qy6, .inl (cI, 20, .inl Hu)), (qy7, .inl (cL, 40, .inr (.inl Tp)))] sz) := by
  refine Met.ofW (cc := cX4_alikeTo) (maxL := 6) (ret := (some .int)) (by decide) rfl ?_
  intro p e s m args below meth c s₁ B hml hv
  obtain ⟨rfl, hsz, hP, hK, hD0, hN⟩ := hv
  have hx := B.exec
  have hb := B.bytes
  have hr := B.returns
  have hts := atoms_spec (ws := wsX4_alikeTo) B.pre
  have hown : s.vm.findClass RX4 = some m.cls := findClass_of_methodNamed B.named
  have hlocks := B.notSynchronized
  subst hsz
  have hD := hD0.self (sz := s.heap.size)
  generalize hAe : va_A [(qy, .inr (4, [.ref qy1, .ref qy2, .ref qy3, .ref qy4, .int zM, .ref qy5, .ref qy6, .int zH, .ref qy7, .int zT, .long bg])), (qy1, .inl (cI, 40, .inl Mt)), (qy2, .inl (cI, 40, .inl Ms)), (qy3, .inl (cI, 40, .inl Mf)), (qy4, .inl (cI, 40, .inl Ml)), (qy5, .inl (cI, 20, .inl Ht)), (qy6, .inl (cI, 20, .inl Hu)), (qy7, .inl (cL, 40, .inr (.inl Tp)))] s.heap.size = A at hD ⊢
  have hA : ∀ q : Nat, s.heap.size ≤ q → A q := fun q h => by rw [← hAe]; exact Or.inr h
  have hP : va_P G vwCl [(qy, .inr (4, [.ref qy1, .ref qy2, .ref qy3, .ref qy4, .int zM, .ref qy5, .ref qy6, .int zH, .ref qy7, .int zT, .long bg])), (qy1, .inl (cI, 40, .inl Mt)), (qy2, .inl (cI, 40, .inl Ms)), (qy3, .inl (cI, 40, .inl Mf)), (qy4, .inl (cI, 40, .inl Ml)), (qy5, .inl (cI, 20, .inl Ht)), (qy6, .inl (cI, 20, .inl Hu)), (qy7, .inl (cL, 40, .inr (.inl Tp)))] s.heap := hP
  have hl := lv_entry ([.ref qy, .int p0, .int p1]) (n := 6) (Nat.le_of_ble_eq_true rfl)
  rw [lg_entry_eq]
  generalize (lg_sl ([.ref qy, .int p0, .int p1]) ++ List.replicate (6 - (lg_sl ([.ref qy, .int p0, .int p1])).length) Slot.unset).toArray = ls at hl ⊢
  have hl : lv_has ls 6 [(0, .ref qy), (1, .int p0), (2, .int p1)] := hl
  have hf7 := hts (.fieldLink RX4 7 "TempoMapsModel" "markTick" "[I") (by decide +kernel)
  have hf13 := hts (.fieldLink RX4 13 "TempoMapsModel" "markLong" "[I") (by decide +kernel)
  have hf32 := hts (.fieldLink RX4 32 "TempoMapsModel" "marks" "I") (by decide +kernel)
  have hiX4 : ∀ w ∈ wsX40, w ∈ wsX4_alikeTo := by decide +kernel
  have zim1 : ((-1 : Int32)).toInt = -1 := by decide
  have zi0 : ((0 : Int32)).toInt = 0 := by decide
  have zi1 : ((1 : Int32)).toInt = 1 := by decide
  refine w_h (A := A) hP (fun H locs hP hS => ?_)
  have hn40 := hOM.1
  have hrg := hOM.2.1
  have hn20 := hOH.1
  have hrh := hOH.2.1
  have hn41 := hOT.1
  have hrt := hOT.2.1
  have zz0 : ((0 : Int32)).toInt = 0 := by decide
  refine lv_aload_n hx hb dX4_alikeTo_0 rfl (lv_at hl 0 rfl) ?_
  refine lv_iload_n hx hb dX4_alikeTo_1 rfl (lv_at hl 1 rfl) ?_
  have hPc := hP.sub (ws' := [(qy, .inr (4, [.ref qy1, .ref qy2, .ref qy3, .ref qy4, .int zM, .ref qy5, .ref qy6, .int zH, .ref qy7, .int zT, .long bg])), (qy1, .inl (cI, 40, .inl Mt)), (qy2, .inl (cI, 40, .inl Ms)), (qy3, .inl (cI, 40, .inl Mf)), (qy4, .inl (cI, 40, .inl Ml)), (qy5, .inl (cI, 20, .inl Ht)), (qy6, .inl (cI, 20, .inl Hu)), (qy7, .inl (cL, 40, .inr (.inl Tp)))]) [0, 1, 2, 3, 4, 5, 6, 7] rfl
  have hDc := hD.sub (ws' := [(qy, .inr (4, [.ref qy1, .ref qy2, .ref qy3, .ref qy4, .int zM, .ref qy5, .ref qy6, .int zH, .ref qy7, .int zT, .long bg])), (qy1, .inl (cI, 40, .inl Mt)), (qy2, .inl (cI, 40, .inl Ms)), (qy3, .inl (cI, 40, .inl Mf)), (qy4, .inl (cI, 40, .inl Ml)), (qy5, .inl (cI, 20, .inl Ht)), (qy6, .inl (cI, 20, .inl Hu)), (qy7, .inl (cL, 40, .inr (.inl Tp)))]) [0, 1, 2, 3, 4, 5, 6, 7] (by decide) rfl
  have hcc := (ct_X4_markOf l G cI cL H.size qy qy1 qy2 qy3 qy4 qy5 qy6 qy7 zM zH zT bg Mt Ms Mf Ml Ht Hu Tp p0 nm hnM hOM nh hnH hOH nt hnT hOT)
  refine ro_calli (va_runV (As := [.int p0]) (rest := []) ⟨hx, hb, hml, hown, hts⟩ hcc (cwV 1 hts gX4_alikeTo_X4_markOf rfl rfl rfl (by decide +kernel) ⟨Nat.le_of_ble_eq_true rfl, Nat.le_of_ble_eq_true rfl⟩) ⟨pre_blind, va_recv hK hPc (ci := 4) (q0 := 0) rfl rfl, pre_pass hK hN hPc hDc⟩ rfl rfl hl.1 rfl (lv_room (Nat.le_of_ble_eq_true rfl)) dX4_alikeTo_2 ⟨Nat.le_of_ble_eq_true rfl, Nat.le_of_ble_eq_true rfl⟩) hP hD hS hA [0, 1, 2, 3, 4, 5, 6, 7] rfl (fun r2 H locs hw2 hP hS => ?_)
  try dsimp only at hw2
  refine lv_istore_n (lv' := [(3, .int r2), (0, .ref qy), (1, .int p0), (2, .int p1)]) hx hb dX4_alikeTo_5 rfl hl (by decide) rfl (fun ls hl => ?_)
  refine lv_iload_n hx hb dX4_alikeTo_6 rfl (lv_at hl 0 rfl) ?_
  refine lv_iconst (v := (-1)) hx hb dX4_alikeTo_7 (by decide) ?_
  refine lv_icmp_eq (tgt := 34) hx hb dX4_alikeTo_8 (by decide) (fun c8 => ?_) (fun c8 => ?_)
  · have k8 : (r2.toInt : Int) = (-1) := i_eq rfl (show ((-1 : Int32)).toInt = -1 by decide) c8
    have bn := bi_neg hw2 (by omega)
    refine lv_iload_n hx hb dX4_alikeTo_34 rfl (lv_at hl 3 rfl) ?_
    refine lv_istore (lv' := [(4, .int p1), (3, .int r2), (0, .ref qy), (1, .int p0), (2, .int p1)]) hx hb dX4_alikeTo_35  hl (by decide) rfl (fun ls hl => ?_)
    obtain ⟨T0, hT0⟩ : ∃ T : Int, T = p1.toInt := ⟨_, rfl⟩
    refine lv_iconst (v := 0) hx hb dX4_alikeTo_37 (by decide) ?_
    refine lv_istore (lv' := [(5, .int 0), (4, .int p1), (3, .int r2), (0, .ref qy), (1, .int p0), (2, .int p1)]) hx hb dX4_alikeTo_38  hl (by decide) rfl (fun ls hl => ?_)
    refine W_loop2 (fun (v4 : Int32) (v5 : Int32) ls H locs => va_P G vwCl [(qy, .inr (4, [.ref qy1, .ref qy2, .ref qy3, .ref qy4, .int zM, .ref qy5, .ref qy6, .int zH, .ref qy7, .int zT, .long bg])), (qy1, .inl (cI, 40, .inl Mt)), (qy2, .inl (cI, 40, .inl Ms)), (qy3, .inl (cI, 40, .inl Mf)), (qy4, .inl (cI, 40, .inl Ml)), (qy5, .inl (cI, 20, .inl Ht)), (qy6, .inl (cI, 20, .inl Hu)), (qy7, .inl (cL, 40, .inr (.inl Tp)))] H ∧ va_D A [(qy, .inr (4, [.ref qy1, .ref qy2, .ref qy3, .ref qy4, .int zM, .ref qy5, .ref qy6, .int zH, .ref qy7, .int zT, .long bg])), (qy1, .inl (cI, 40, .inl Mt)), (qy2, .inl (cI, 40, .inl Ms)), (qy3, .inl (cI, 40, .inl Mf)), (qy4, .inl (cI, 40, .inl Ml)), (qy5, .inl (cI, 20, .inl Ht)), (qy6, .inl (cI, 20, .inl Hu)), (qy7, .inl (cL, 40, .inr (.inl Tp)))] ∧ va_S A s.heap H locs ∧ lv_has ls 6 [(0, .ref qy), (1, .int p0), (2, .int p1), (4, .int v4), (5, .int v5)] ∧ (0 ≤ v5.toInt ∧ v5.toInt ≤ nm) ∧ (∀ k : Nat, k < nm → (k : Int) < v5.toInt → p0.toInt < (Mt k).toInt → v4.toInt ≤ (Mt k).toInt) ∧ (p0.toInt < v4.toInt ∧ v4.toInt ≤ T0)) (fun (v4 : Int32) (v5 : Int32) => (nm - v5.toInt).toNat) (fun v4 v5 ls H locs hI ih40 => ?_) p1 (0 : Int32) ls _ _ ⟨hP, hD, hS, lv_sub hl [3, 4, 5, 1, 0] rfl, (show 0 ≤ (0 : Int32).toInt ∧ (0 : Int32).toInt ≤ nm from by omega), (show ∀ k : Nat, k < nm → (k : Int) < (0 : Int32).toInt → p0.toInt < (Mt k).toInt → p1.toInt ≤ (Mt k).toInt from fun k hk h _ => by omega), (show p0.toInt < p1.toInt ∧ p1.toInt ≤ T0 from by omega)⟩
    obtain ⟨hP, hD, hS, hl, i1, i2, i3⟩ := hI
    refine lv_iload hx hb dX4_alikeTo_40 (lv_at hl 4 rfl) ?_
    refine lv_aload_n hx hb dX4_alikeTo_42 rfl (lv_at hl 0 rfl) ?_
    refine va_get (D := G) (ci := 4) (v := .int zM) (C := RX4) (T := TX4) (N := 11) hx hb hts hiX4 hown hK hP 0 rfl rfl 4 (by decide) hf32 (fun _ h9 => h9) rfl dX4_alikeTo_43 ?_
    refine lv_icmp_ge (tgt := 92) hx hb dX4_alikeTo_46 (by decide) (fun c46 => ?_) (fun c46 => ?_)
    · have k46 : (zM.toInt : Int) ≤ v5.toInt := i_le rfl rfl c46
      refine lv_iload hx hb dX4_alikeTo_92 (lv_at hl 3 rfl) ?_
      refine lv_iload_n hx hb dX4_alikeTo_94 rfl (lv_at hl 2 rfl) ?_
      refine lv_icmp_ge (tgt := 103) hx hb dX4_alikeTo_95 (by decide) (fun c95 => ?_) (fun c95 => ?_)
      · have k95 : (p1.toInt : Int) ≤ v4.toInt := i_le rfl rfl c95
        refine lv_iload_n hx hb dX4_alikeTo_103 rfl (lv_at hl 2 rfl) ?_
        exact W.iret (v := p1) hx hb hr (fun t ht hW => ⟨⟨p1, (), rfl, (by (try dsimp only); exact (by first | exact ⟨by omega, by omega, al_none bn.2 (fun k hk h => by have := i2 k hk (by omega) h; omega)⟩ | exact ⟨by omega, by omega, al_at hOM bg9.1 bg9.2.2.1 bg9.2.2.2 (by omega) (fun k hk h => by have := i2 k hk (by omega) h; omega)⟩ | exact ⟨by omega, by omega, al_in (by omega)⟩)), by rw [ht]; exact hP, hD⟩, hS.F ht⟩) hS.2.2 dX4_alikeTo_104
      · have k95 : (v4.toInt : Int) < p1.toInt := i_nle rfl rfl c95
        refine lv_iload hx hb dX4_alikeTo_98 (lv_at hl 3 rfl) ?_
        refine lv_goto (tgt := 104) hx hb dX4_alikeTo_100 (by decide) ?_
        exact W.iret (v := v4) hx hb hr (fun t ht hW => ⟨⟨v4, (), rfl, (by (try dsimp only); exact (by first | exact ⟨by omega, by omega, al_none bn.2 (fun k hk h => by have := i2 k hk (by omega) h; omega)⟩ | exact ⟨by omega, by omega, al_at hOM bg9.1 bg9.2.2.1 bg9.2.2.2 (by omega) (fun k hk h => by have := i2 k hk (by omega) h; omega)⟩ | exact ⟨by omega, by omega, al_in (by omega)⟩)), by rw [ht]; exact hP, hD⟩, hS.F ht⟩) hS.2.2 dX4_alikeTo_104
    · have k46 : (v5.toInt : Int) < zM.toInt := i_nle rfl rfl c46
      refine lv_aload_n hx hb dX4_alikeTo_49 rfl (lv_at hl 0 rfl) ?_
      refine va_get (D := G) (ci := 4) (v := .ref qy1) (C := RX4) (T := TX4) (N := 11) hx hb hts hiX4 hown hK hP 0 rfl rfl 0 (by decide) hf7 (fun _ h9 => h9) rfl dX4_alikeTo_50 ?_
      refine lv_iload hx hb dX4_alikeTo_53 (lv_at hl 4 rfl) ?_
      refine va_iald hx hb hK hP 1 0 rfl rfl (vi_in rfl (by omega) (by omega)) dX4_alikeTo_55 ?_
      refine lv_topi (fun x55 ex55 => ?_)
      have ex55 : x55 = Mt v5.toInt.toNat := by rw [ex55]; exact congrArg _ (cl_nat rfl (by omega))
      have tx55 : x55.toInt = (Mt v5.toInt.toNat).toInt := by rw [ex55]
      have hrg_x55 := hrg v5.toInt.toNat (by omega)
      refine lv_iload_n hx hb dX4_alikeTo_56 rfl (lv_at hl 1 rfl) ?_
      refine lv_icmp_le (tgt := 82) hx hb dX4_alikeTo_57 (by decide) (fun c57 => ?_) (fun c57 => ?_)
      · have k57 : (x55.toInt : Int) ≤ p0.toInt := i_le rfl rfl c57
        refine lv_iload hx hb dX4_alikeTo_82 (lv_at hl 3 rfl) ?_
        refine lv_istore (lv' := [(4, .int v4), (0, .ref qy), (1, .int p0), (2, .int p1), (5, .int v5)]) hx hb dX4_alikeTo_84  hl (by decide) rfl (fun ls hl => ?_)
        obtain ⟨x86, ex86⟩ : ∃ y : Int32, y = v5 + 1 := ⟨_, rfl⟩
        have tx86 : x86.toInt = v5.toInt + 1 := by rw [ex86]; exact ti_add rfl (by decide) (by omega) (by omega)
        refine lv_iinc (v := x86) (lv' := [(5, .int x86), (4, .int v4), (0, .ref qy), (1, .int p0), (2, .int p1)]) hx hb dX4_alikeTo_86 hl (k := 4) rfl (by rw [ex86]; rfl) (by decide) rfl (fun ls hl => ?_)
        refine lv_goto (tgt := 40) hx hb dX4_alikeTo_89 (by decide) ?_
        exact ih40 v4 x86 ls _ _ ⟨hP, hD, hS, lv_sub hl [2, 3, 4, 1, 0] rfl, (show 0 ≤ x86.toInt ∧ x86.toInt ≤ nm from by omega), (show ∀ k : Nat, k < nm → (k : Int) < x86.toInt → p0.toInt < (Mt k).toInt → v4.toInt ≤ (Mt k).toInt from fun k hk h h2 => (Decidable.em ((k : Int) < v5.toInt)).elim (fun q => by have := i2 k hk q h2; omega) (fun q => by rw [show k = v5.toInt.toNat by omega] at h2 ⊢; omega)), (show p0.toInt < v4.toInt ∧ v4.toInt ≤ T0 from by omega)⟩ (show (nm - x86.toInt).toNat < (nm - v5.toInt).toNat from by omega)
      · have k57 : (p0.toInt : Int) < x55.toInt := i_nle rfl rfl c57
        refine lv_aload_n hx hb dX4_alikeTo_60 rfl (lv_at hl 0 rfl) ?_
        refine va_get (D := G) (ci := 4) (v := .ref qy1) (C := RX4) (T := TX4) (N := 11) hx hb hts hiX4 hown hK hP 0 rfl rfl 0 (by decide) hf7 (fun _ h9 => h9) rfl dX4_alikeTo_61 ?_
        refine lv_iload hx hb dX4_alikeTo_64 (lv_at hl 4 rfl) ?_
        refine va_iald hx hb hK hP 1 0 rfl rfl (vi_in rfl (by omega) (by omega)) dX4_alikeTo_66 ?_
        refine lv_topi (fun x66 ex66 => ?_)
        have ex66 : x66 = Mt v5.toInt.toNat := by rw [ex66]; exact congrArg _ (cl_nat rfl (by omega))
        have tx66 : x66.toInt = (Mt v5.toInt.toNat).toInt := by rw [ex66]
        have hrg_x66 := hrg v5.toInt.toNat (by omega)
        refine lv_iload hx hb dX4_alikeTo_67 (lv_at hl 3 rfl) ?_
        refine lv_icmp_ge (tgt := 82) hx hb dX4_alikeTo_69 (by decide) (fun c69 => ?_) (fun c69 => ?_)
        · have k69 : (v4.toInt : Int) ≤ x66.toInt := i_le rfl rfl c69
          refine lv_iload hx hb dX4_alikeTo_82 (lv_at hl 3 rfl) ?_
          refine lv_istore (lv' := [(4, .int v4), (0, .ref qy), (1, .int p0), (2, .int p1), (5, .int v5)]) hx hb dX4_alikeTo_84  hl (by decide) rfl (fun ls hl => ?_)
          obtain ⟨x86_2, ex86_2⟩ : ∃ y : Int32, y = v5 + 1 := ⟨_, rfl⟩
          have tx86_2 : x86_2.toInt = v5.toInt + 1 := by rw [ex86_2]; exact ti_add rfl (by decide) (by omega) (by omega)
          refine lv_iinc (v := x86_2) (lv' := [(5, .int x86_2), (4, .int v4), (0, .ref qy), (1, .int p0), (2, .int p1)]) hx hb dX4_alikeTo_86 hl (k := 4) rfl (by rw [ex86_2]; rfl) (by decide) rfl (fun ls hl => ?_)
          refine lv_goto (tgt := 40) hx hb dX4_alikeTo_89 (by decide) ?_
          exact ih40 v4 x86_2 ls _ _ ⟨hP, hD, hS, lv_sub hl [2, 3, 4, 1, 0] rfl, (show 0 ≤ x86_2.toInt ∧ x86_2.toInt ≤ nm from by omega), (show ∀ k : Nat, k < nm → (k : Int) < x86_2.toInt → p0.toInt < (Mt k).toInt → v4.toInt ≤ (Mt k).toInt from fun k hk h h2 => (Decidable.em ((k : Int) < v5.toInt)).elim (fun q => by have := i2 k hk q h2; omega) (fun q => by rw [show k = v5.toInt.toNat by omega] at h2 ⊢; omega)), (show p0.toInt < v4.toInt ∧ v4.toInt ≤ T0 from by omega)⟩ (show (nm - x86_2.toInt).toNat < (nm - v5.toInt).toNat from by omega)
        · have k69 : (x66.toInt : Int) < v4.toInt := i_nle rfl rfl c69
          refine lv_aload_n hx hb dX4_alikeTo_72 rfl (lv_at hl 0 rfl) ?_
          refine va_get (D := G) (ci := 4) (v := .ref qy1) (C := RX4) (T := TX4) (N := 11) hx hb hts hiX4 hown hK hP 0 rfl rfl 0 (by decide) hf7 (fun _ h9 => h9) rfl dX4_alikeTo_73 ?_
          refine lv_iload hx hb dX4_alikeTo_76 (lv_at hl 4 rfl) ?_
          refine va_iald hx hb hK hP 1 0 rfl rfl (vi_in rfl (by omega) (by omega)) dX4_alikeTo_78 ?_
          refine lv_topi (fun x78 ex78 => ?_)
          have ex78 : x78 = Mt v5.toInt.toNat := by rw [ex78]; exact congrArg _ (cl_nat rfl (by omega))
          have tx78 : x78.toInt = (Mt v5.toInt.toNat).toInt := by rw [ex78]
          have hrg_x78 := hrg v5.toInt.toNat (by omega)
          refine lv_goto (tgt := 84) hx hb dX4_alikeTo_79 (by decide) ?_
          refine lv_istore (lv' := [(4, .int x78), (0, .ref qy), (1, .int p0), (2, .int p1), (5, .int v5)]) hx hb dX4_alikeTo_84  hl (by decide) rfl (fun ls hl => ?_)
          obtain ⟨x86_3, ex86_3⟩ : ∃ y : Int32, y = v5 + 1 := ⟨_, rfl⟩
          have tx86_3 : x86_3.toInt = v5.toInt + 1 := by rw [ex86_3]; exact ti_add rfl (by decide) (by omega) (by omega)
          refine lv_iinc (v := x86_3) (lv' := [(5, .int x86_3), (4, .int x78), (0, .ref qy), (1, .int p0), (2, .int p1)]) hx hb dX4_alikeTo_86 hl (k := 4) rfl (by rw [ex86_3]; rfl) (by decide) rfl (fun ls hl => ?_)
          refine lv_goto (tgt := 40) hx hb dX4_alikeTo_89 (by decide) ?_
          exact ih40 x78 x86_3 ls _ _ ⟨hP, hD, hS, lv_sub hl [2, 3, 4, 1, 0] rfl, (show 0 ≤ x86_3.toInt ∧ x86_3.toInt ≤ nm from by omega), (show ∀ k : Nat, k < nm → (k : Int) < x86_3.toInt → p0.toInt < (Mt k).toInt → x78.toInt ≤ (Mt k).toInt from fun k hk h h2 => (Decidable.em ((k : Int) < v5.toInt)).elim (fun q => by have := i2 k hk q h2; omega) (fun q => by rw [show k = v5.toInt.toNat by omega] at h2 ⊢; omega)), (show p0.toInt < x78.toInt ∧ x78.toInt ≤ T0 from by omega)⟩ (show (nm - x86_3.toInt).toNat < (nm - v5.toInt).toNat from by omega)
  · have k8 : (r2.toInt : Int) ≠ (-1) := i_ne rfl (show ((-1 : Int32)).toInt = -1 by decide) c8
    have br9 := bi_rng (t := Mt) (x := p0.toInt) nm
    have r0 : 0 ≤ r2.toInt := by omega
    have bg9 := bi_get hw2 r0
    refine lv_iload_n hx hb dX4_alikeTo_11 rfl (lv_at hl 2 rfl) ?_
    refine lv_aload_n hx hb dX4_alikeTo_12 rfl (lv_at hl 1 rfl) ?_
    refine va_get (D := G) (ci := 4) (v := .ref qy1) (C := RX4) (T := TX4) (N := 11) hx hb hts hiX4 hown hK hP 0 rfl rfl 0 (by decide) hf7 (fun _ h9 => h9) rfl dX4_alikeTo_13 ?_
    refine lv_iload_n hx hb dX4_alikeTo_16 rfl (lv_at hl 0 rfl) ?_
    refine va_iald hx hb hK hP 1 0 rfl rfl (vi_in rfl (by omega) (by omega)) dX4_alikeTo_17 ?_
    refine lv_topi (fun x17 ex17 => ?_)
    have ex17 : x17 = Mt r2.toInt.toNat := by rw [ex17]; exact congrArg _ (cl_nat rfl (by omega))
    have tx17 : x17.toInt = (Mt r2.toInt.toNat).toInt := by rw [ex17]
    have hrg_x17 := hrg r2.toInt.toNat (by omega)
    refine lv_aload_n hx hb dX4_alikeTo_18 rfl (lv_at hl 1 rfl) ?_
    refine va_get (D := G) (ci := 4) (v := .ref qy2) (C := RX4) (T := TX4) (N := 11) hx hb hts hiX4 hown hK hP 0 rfl rfl 1 (by decide) hf13 (fun _ h9 => h9) rfl dX4_alikeTo_19 ?_
    refine lv_iload_n hx hb dX4_alikeTo_22 rfl (lv_at hl 0 rfl) ?_
    refine va_iald hx hb hK hP 2 0 rfl rfl (vi_in rfl (by omega) (by omega)) dX4_alikeTo_23 ?_
    refine lv_topi (fun x23 ex23 => ?_)
    have ex23 : x23 = Ms r2.toInt.toNat := by rw [ex23]; exact congrArg _ (cl_nat rfl (by omega))
    have tx23 : x23.toInt = (Ms r2.toInt.toNat).toInt := by rw [ex23]
    have hrg_x23 := hrg r2.toInt.toNat (by omega)
    refine lv_iadd hx hb dX4_alikeTo_24 ?_
    refine lv_topi (fun x24 ex24 => ?_)
    have tx24 : x24.toInt = x17.toInt + x23.toInt := by rw [ex24]; exact ti_add rfl rfl (by omega) (by omega)
    refine lv_icmp_ge (tgt := 34) hx hb dX4_alikeTo_25 (by decide) (fun c25 => ?_) (fun c25 => ?_)
    · have k25 : (x24.toInt : Int) ≤ p0.toInt := i_le rfl rfl c25
      refine lv_iload_n hx hb dX4_alikeTo_34 rfl (lv_at hl 3 rfl) ?_
      refine lv_istore (lv' := [(4, .int p1), (3, .int r2), (0, .ref qy), (1, .int p0), (2, .int p1)]) hx hb dX4_alikeTo_35  hl (by decide) rfl (fun ls hl => ?_)
      obtain ⟨T0, hT0⟩ : ∃ T : Int, T = p1.toInt := ⟨_, rfl⟩
      refine lv_iconst (v := 0) hx hb dX4_alikeTo_37 (by decide) ?_
      refine lv_istore (lv' := [(5, .int 0), (4, .int p1), (3, .int r2), (0, .ref qy), (1, .int p0), (2, .int p1)]) hx hb dX4_alikeTo_38  hl (by decide) rfl (fun ls hl => ?_)
      refine W_loop2 (fun (v4 : Int32) (v5 : Int32) ls H locs => va_P G vwCl [(qy, .inr (4, [.ref qy1, .ref qy2, .ref qy3, .ref qy4, .int zM, .ref qy5, .ref qy6, .int zH, .ref qy7, .int zT, .long bg])), (qy1, .inl (cI, 40, .inl Mt)), (qy2, .inl (cI, 40, .inl Ms)), (qy3, .inl (cI, 40, .inl Mf)), (qy4, .inl (cI, 40, .inl Ml)), (qy5, .inl (cI, 20, .inl Ht)), (qy6, .inl (cI, 20, .inl Hu)), (qy7, .inl (cL, 40, .inr (.inl Tp)))] H ∧ va_D A [(qy, .inr (4, [.ref qy1, .ref qy2, .ref qy3, .ref qy4, .int zM, .ref qy5, .ref qy6, .int zH, .ref qy7, .int zT, .long bg])), (qy1, .inl (cI, 40, .inl Mt)), (qy2, .inl (cI, 40, .inl Ms)), (qy3, .inl (cI, 40, .inl Mf)), (qy4, .inl (cI, 40, .inl Ml)), (qy5, .inl (cI, 20, .inl Ht)), (qy6, .inl (cI, 20, .inl Hu)), (qy7, .inl (cL, 40, .inr (.inl Tp)))] ∧ va_S A s.heap H locs ∧ lv_has ls 6 [(0, .ref qy), (1, .int p0), (2, .int p1), (4, .int v4), (5, .int v5)] ∧ (0 ≤ v5.toInt ∧ v5.toInt ≤ nm) ∧ (∀ k : Nat, k < nm → (k : Int) < v5.toInt → p0.toInt < (Mt k).toInt → v4.toInt ≤ (Mt k).toInt) ∧ (p0.toInt < v4.toInt ∧ v4.toInt ≤ T0)) (fun (v4 : Int32) (v5 : Int32) => (nm - v5.toInt).toNat) (fun v4 v5 ls H locs hI ih40 => ?_) p1 (0 : Int32) ls _ _ ⟨hP, hD, hS, lv_sub hl [3, 4, 5, 1, 0] rfl, (show 0 ≤ (0 : Int32).toInt ∧ (0 : Int32).toInt ≤ nm from by omega), (show ∀ k : Nat, k < nm → (k : Int) < (0 : Int32).toInt → p0.toInt < (Mt k).toInt → p1.toInt ≤ (Mt k).toInt from fun k hk h _ => by omega), (show p0.toInt < p1.toInt ∧ p1.toInt ≤ T0 from by omega)⟩
      obtain ⟨hP, hD, hS, hl, i1, i2, i3⟩ := hI
      refine lv_iload hx hb dX4_alikeTo_40 (lv_at hl 4 rfl) ?_
      refine lv_aload_n hx hb dX4_alikeTo_42 rfl (lv_at hl 0 rfl) ?_
      refine va_get (D := G) (ci := 4) (v := .int zM) (C := RX4) (T := TX4) (N := 11) hx hb hts hiX4 hown hK hP 0 rfl rfl 4 (by decide) hf32 (fun _ h9 => h9) rfl dX4_alikeTo_43 ?_
      refine lv_icmp_ge (tgt := 92) hx hb dX4_alikeTo_46 (by decide) (fun c46 => ?_) (fun c46 => ?_)
      · have k46 : (zM.toInt : Int) ≤ v5.toInt := i_le rfl rfl c46
        refine lv_iload hx hb dX4_alikeTo_92 (lv_at hl 3 rfl) ?_
        refine lv_iload_n hx hb dX4_alikeTo_94 rfl (lv_at hl 2 rfl) ?_
        refine lv_icmp_ge (tgt := 103) hx hb dX4_alikeTo_95 (by decide) (fun c95 => ?_) (fun c95 => ?_)
        · have k95 : (p1.toInt : Int) ≤ v4.toInt := i_le rfl rfl c95
          refine lv_iload_n hx hb dX4_alikeTo_103 rfl (lv_at hl 2 rfl) ?_
          exact W.iret (v := p1) hx hb hr (fun t ht hW => ⟨⟨p1, (), rfl, (by (try dsimp only); exact (by first | exact ⟨by omega, by omega, al_none bn.2 (fun k hk h => by have := i2 k hk (by omega) h; omega)⟩ | exact ⟨by omega, by omega, al_at hOM bg9.1 bg9.2.2.1 bg9.2.2.2 (by omega) (fun k hk h => by have := i2 k hk (by omega) h; omega)⟩ | exact ⟨by omega, by omega, al_in (by omega)⟩)), by rw [ht]; exact hP, hD⟩, hS.F ht⟩) hS.2.2 dX4_alikeTo_104
        · have k95 : (v4.toInt : Int) < p1.toInt := i_nle rfl rfl c95
          refine lv_iload hx hb dX4_alikeTo_98 (lv_at hl 3 rfl) ?_
          refine lv_goto (tgt := 104) hx hb dX4_alikeTo_100 (by decide) ?_
          exact W.iret (v := v4) hx hb hr (fun t ht hW => ⟨⟨v4, (), rfl, (by (try dsimp only); exact (by first | exact ⟨by omega, by omega, al_none bn.2 (fun k hk h => by have := i2 k hk (by omega) h; omega)⟩ | exact ⟨by omega, by omega, al_at hOM bg9.1 bg9.2.2.1 bg9.2.2.2 (by omega) (fun k hk h => by have := i2 k hk (by omega) h; omega)⟩ | exact ⟨by omega, by omega, al_in (by omega)⟩)), by rw [ht]; exact hP, hD⟩, hS.F ht⟩) hS.2.2 dX4_alikeTo_104
      · have k46 : (v5.toInt : Int) < zM.toInt := i_nle rfl rfl c46
        refine lv_aload_n hx hb dX4_alikeTo_49 rfl (lv_at hl 0 rfl) ?_
        refine va_get (D := G) (ci := 4) (v := .ref qy1) (C := RX4) (T := TX4) (N := 11) hx hb hts hiX4 hown hK hP 0 rfl rfl 0 (by decide) hf7 (fun _ h9 => h9) rfl dX4_alikeTo_50 ?_
        refine lv_iload hx hb dX4_alikeTo_53 (lv_at hl 4 rfl) ?_
        refine va_iald hx hb hK hP 1 0 rfl rfl (vi_in rfl (by omega) (by omega)) dX4_alikeTo_55 ?_
        refine lv_topi (fun x55_2 ex55_2 => ?_)
        have ex55_2 : x55_2 = Mt v5.toInt.toNat := by rw [ex55_2]; exact congrArg _ (cl_nat rfl (by omega))
        have tx55_2 : x55_2.toInt = (Mt v5.toInt.toNat).toInt := by rw [ex55_2]
        have hrg_x55_2 := hrg v5.toInt.toNat (by omega)
        refine lv_iload_n hx hb dX4_alikeTo_56 rfl (lv_at hl 1 rfl) ?_
        refine lv_icmp_le (tgt := 82) hx hb dX4_alikeTo_57 (by decide) (fun c57 => ?_) (fun c57 => ?_)
        · have k57 : (x55_2.toInt : Int) ≤ p0.toInt := i_le rfl rfl c57
          refine lv_iload hx hb dX4_alikeTo_82 (lv_at hl 3 rfl) ?_
          refine lv_istore (lv' := [(4, .int v4), (0, .ref qy), (1, .int p0), (2, .int p1), (5, .int v5)]) hx hb dX4_alikeTo_84  hl (by decide) rfl (fun ls hl => ?_)
          obtain ⟨x86_4, ex86_4⟩ : ∃ y : Int32, y = v5 + 1 := ⟨_, rfl⟩
          have tx86_4 : x86_4.toInt = v5.toInt + 1 := by rw [ex86_4]; exact ti_add rfl (by decide) (by omega) (by omega)
          refine lv_iinc (v := x86_4) (lv' := [(5, .int x86_4), (4, .int v4), (0, .ref qy), (1, .int p0), (2, .int p1)]) hx hb dX4_alikeTo_86 hl (k := 4) rfl (by rw [ex86_4]; rfl) (by decide) rfl (fun ls hl => ?_)
          refine lv_goto (tgt := 40) hx hb dX4_alikeTo_89 (by decide) ?_
          exact ih40 v4 x86_4 ls _ _ ⟨hP, hD, hS, lv_sub hl [2, 3, 4, 1, 0] rfl, (show 0 ≤ x86_4.toInt ∧ x86_4.toInt ≤ nm from by omega), (show ∀ k : Nat, k < nm → (k : Int) < x86_4.toInt → p0.toInt < (Mt k).toInt → v4.toInt ≤ (Mt k).toInt from fun k hk h h2 => (Decidable.em ((k : Int) < v5.toInt)).elim (fun q => by have := i2 k hk q h2; omega) (fun q => by rw [show k = v5.toInt.toNat by omega] at h2 ⊢; omega)), (show p0.toInt < v4.toInt ∧ v4.toInt ≤ T0 from by omega)⟩ (show (nm - x86_4.toInt).toNat < (nm - v5.toInt).toNat from by omega)
        · have k57 : (p0.toInt : Int) < x55_2.toInt := i_nle rfl rfl c57
          refine lv_aload_n hx hb dX4_alikeTo_60 rfl (lv_at hl 0 rfl) ?_
          refine va_get (D := G) (ci := 4) (v := .ref qy1) (C := RX4) (T := TX4) (N := 11) hx hb hts hiX4 hown hK hP 0 rfl rfl 0 (by decide) hf7 (fun _ h9 => h9) rfl dX4_alikeTo_61 ?_
          refine lv_iload hx hb dX4_alikeTo_64 (lv_at hl 4 rfl) ?_
          refine va_iald hx hb hK hP 1 0 rfl rfl (vi_in rfl (by omega) (by omega)) dX4_alikeTo_66 ?_
          refine lv_topi (fun x66_2 ex66_2 => ?_)
          have ex66_2 : x66_2 = Mt v5.toInt.toNat := by rw [ex66_2]; exact congrArg _ (cl_nat rfl (by omega))
          have tx66_2 : x66_2.toInt = (Mt v5.toInt.toNat).toInt := by rw [ex66_2]
          have hrg_x66_2 := hrg v5.toInt.toNat (by omega)
          refine lv_iload hx hb dX4_alikeTo_67 (lv_at hl 3 rfl) ?_
          refine lv_icmp_ge (tgt := 82) hx hb dX4_alikeTo_69 (by decide) (fun c69 => ?_) (fun c69 => ?_)
          · have k69 : (v4.toInt : Int) ≤ x66_2.toInt := i_le rfl rfl c69
            refine lv_iload hx hb dX4_alikeTo_82 (lv_at hl 3 rfl) ?_
            refine lv_istore (lv' := [(4, .int v4), (0, .ref qy), (1, .int p0), (2, .int p1), (5, .int v5)]) hx hb dX4_alikeTo_84  hl (by decide) rfl (fun ls hl => ?_)
            obtain ⟨x86_5, ex86_5⟩ : ∃ y : Int32, y = v5 + 1 := ⟨_, rfl⟩
            have tx86_5 : x86_5.toInt = v5.toInt + 1 := by rw [ex86_5]; exact ti_add rfl (by decide) (by omega) (by omega)
            refine lv_iinc (v := x86_5) (lv' := [(5, .int x86_5), (4, .int v4), (0, .ref qy), (1, .int p0), (2, .int p1)]) hx hb dX4_alikeTo_86 hl (k := 4) rfl (by rw [ex86_5]; rfl) (by decide) rfl (fun ls hl => ?_)
            refine lv_goto (tgt := 40) hx hb dX4_alikeTo_89 (by decide) ?_
            exact ih40 v4 x86_5 ls _ _ ⟨hP, hD, hS, lv_sub hl [2, 3, 4, 1, 0] rfl, (show 0 ≤ x86_5.toInt ∧ x86_5.toInt ≤ nm from by omega), (show ∀ k : Nat, k < nm → (k : Int) < x86_5.toInt → p0.toInt < (Mt k).toInt → v4.toInt ≤ (Mt k).toInt from fun k hk h h2 => (Decidable.em ((k : Int) < v5.toInt)).elim (fun q => by have := i2 k hk q h2; omega) (fun q => by rw [show k = v5.toInt.toNat by omega] at h2 ⊢; omega)), (show p0.toInt < v4.toInt ∧ v4.toInt ≤ T0 from by omega)⟩ (show (nm - x86_5.toInt).toNat < (nm - v5.toInt).toNat from by omega)
          · have k69 : (x66_2.toInt : Int) < v4.toInt := i_nle rfl rfl c69
            refine lv_aload_n hx hb dX4_alikeTo_72 rfl (lv_at hl 0 rfl) ?_
            refine va_get (D := G) (ci := 4) (v := .ref qy1) (C := RX4) (T := TX4) (N := 11) hx hb hts hiX4 hown hK hP 0 rfl rfl 0 (by decide) hf7 (fun _ h9 => h9) rfl dX4_alikeTo_73 ?_
            refine lv_iload hx hb dX4_alikeTo_76 (lv_at hl 4 rfl) ?_
            refine va_iald hx hb hK hP 1 0 rfl rfl (vi_in rfl (by omega) (by omega)) dX4_alikeTo_78 ?_
            refine lv_topi (fun x78_2 ex78_2 => ?_)
            have ex78_2 : x78_2 = Mt v5.toInt.toNat := by rw [ex78_2]; exact congrArg _ (cl_nat rfl (by omega))
            have tx78_2 : x78_2.toInt = (Mt v5.toInt.toNat).toInt := by rw [ex78_2]
            have hrg_x78_2 := hrg v5.toInt.toNat (by omega)
            refine lv_goto (tgt := 84) hx hb dX4_alikeTo_79 (by decide) ?_
            refine lv_istore (lv' := [(4, .int x78_2), (0, .ref qy), (1, .int p0), (2, .int p1), (5, .int v5)]) hx hb dX4_alikeTo_84  hl (by decide) rfl (fun ls hl => ?_)
            obtain ⟨x86_6, ex86_6⟩ : ∃ y : Int32, y = v5 + 1 := ⟨_, rfl⟩
            have tx86_6 : x86_6.toInt = v5.toInt + 1 := by rw [ex86_6]; exact ti_add rfl (by decide) (by omega) (by omega)
            refine lv_iinc (v := x86_6) (lv' := [(5, .int x86_6), (4, .int x78_2), (0, .ref qy), (1, .int p0), (2, .int p1)]) hx hb dX4_alikeTo_86 hl (k := 4) rfl (by rw [ex86_6]; rfl) (by decide) rfl (fun ls hl => ?_)
            refine lv_goto (tgt := 40) hx hb dX4_alikeTo_89 (by decide) ?_
            exact ih40 x78_2 x86_6 ls _ _ ⟨hP, hD, hS, lv_sub hl [2, 3, 4, 1, 0] rfl, (show 0 ≤ x86_6.toInt ∧ x86_6.toInt ≤ nm from by omega), (show ∀ k : Nat, k < nm → (k : Int) < x86_6.toInt → p0.toInt < (Mt k).toInt → x78_2.toInt ≤ (Mt k).toInt from fun k hk h h2 => (Decidable.em ((k : Int) < v5.toInt)).elim (fun q => by have := i2 k hk q h2; omega) (fun q => by rw [show k = v5.toInt.toNat by omega] at h2 ⊢; omega)), (show p0.toInt < x78_2.toInt ∧ x78_2.toInt ≤ T0 from by omega)⟩ (show (nm - x86_6.toInt).toNat < (nm - v5.toInt).toNat from by omega)
    · have k25 : (p0.toInt : Int) < x24.toInt := i_nle rfl rfl c25
      refine lv_iload_n hx hb dX4_alikeTo_28 rfl (lv_at hl 2 rfl) ?_
      refine lv_iconst (v := 1) hx hb dX4_alikeTo_29 (by decide) ?_
      refine lv_iadd hx hb dX4_alikeTo_30 ?_
      refine lv_topi (fun x30 ex30 => ?_)
      have tx30 : x30.toInt = p0.toInt + 1 := by rw [ex30]; exact ti_add rfl (show ((1 : Int32)).toInt = 1 by decide) (by omega) (by omega)
      refine lv_goto (tgt := 35) hx hb dX4_alikeTo_31 (by decide) ?_
      refine lv_istore (lv' := [(4, .int x30), (3, .int r2), (0, .ref qy), (1, .int p0), (2, .int p1)]) hx hb dX4_alikeTo_35  hl (by decide) rfl (fun ls hl => ?_)
      obtain ⟨T0, hT0⟩ : ∃ T : Int, T = x30.toInt := ⟨_, rfl⟩
      refine lv_iconst (v := 0) hx hb dX4_alikeTo_37 (by decide) ?_
      refine lv_istore (lv' := [(5, .int 0), (4, .int x30), (3, .int r2), (0, .ref qy), (1, .int p0), (2, .int p1)]) hx hb dX4_alikeTo_38  hl (by decide) rfl (fun ls hl => ?_)
      refine W_loop2 (fun (v4 : Int32) (v5 : Int32) ls H locs => va_P G vwCl [(qy, .inr (4, [.ref qy1, .ref qy2, .ref qy3, .ref qy4, .int zM, .ref qy5, .ref qy6, .int zH, .ref qy7, .int zT, .long bg])), (qy1, .inl (cI, 40, .inl Mt)), (qy2, .inl (cI, 40, .inl Ms)), (qy3, .inl (cI, 40, .inl Mf)), (qy4, .inl (cI, 40, .inl Ml)), (qy5, .inl (cI, 20, .inl Ht)), (qy6, .inl (cI, 20, .inl Hu)), (qy7, .inl (cL, 40, .inr (.inl Tp)))] H ∧ va_D A [(qy, .inr (4, [.ref qy1, .ref qy2, .ref qy3, .ref qy4, .int zM, .ref qy5, .ref qy6, .int zH, .ref qy7, .int zT, .long bg])), (qy1, .inl (cI, 40, .inl Mt)), (qy2, .inl (cI, 40, .inl Ms)), (qy3, .inl (cI, 40, .inl Mf)), (qy4, .inl (cI, 40, .inl Ml)), (qy5, .inl (cI, 20, .inl Ht)), (qy6, .inl (cI, 20, .inl Hu)), (qy7, .inl (cL, 40, .inr (.inl Tp)))] ∧ va_S A s.heap H locs ∧ lv_has ls 6 [(0, .ref qy), (1, .int p0), (2, .int p1), (4, .int v4), (5, .int v5)] ∧ (0 ≤ v5.toInt ∧ v5.toInt ≤ nm) ∧ (∀ k : Nat, k < nm → (k : Int) < v5.toInt → p0.toInt < (Mt k).toInt → v4.toInt ≤ (Mt k).toInt) ∧ (p0.toInt < v4.toInt ∧ v4.toInt ≤ T0)) (fun (v4 : Int32) (v5 : Int32) => (nm - v5.toInt).toNat) (fun v4 v5 ls H locs hI ih40 => ?_) x30 (0 : Int32) ls _ _ ⟨hP, hD, hS, lv_sub hl [3, 4, 5, 1, 0] rfl, (show 0 ≤ (0 : Int32).toInt ∧ (0 : Int32).toInt ≤ nm from by omega), (show ∀ k : Nat, k < nm → (k : Int) < (0 : Int32).toInt → p0.toInt < (Mt k).toInt → x30.toInt ≤ (Mt k).toInt from fun k hk h _ => by omega), (show p0.toInt < x30.toInt ∧ x30.toInt ≤ T0 from by omega)⟩
      obtain ⟨hP, hD, hS, hl, i1, i2, i3⟩ := hI
      refine lv_iload hx hb dX4_alikeTo_40 (lv_at hl 4 rfl) ?_
      refine lv_aload_n hx hb dX4_alikeTo_42 rfl (lv_at hl 0 rfl) ?_
      refine va_get (D := G) (ci := 4) (v := .int zM) (C := RX4) (T := TX4) (N := 11) hx hb hts hiX4 hown hK hP 0 rfl rfl 4 (by decide) hf32 (fun _ h9 => h9) rfl dX4_alikeTo_43 ?_
      refine lv_icmp_ge (tgt := 92) hx hb dX4_alikeTo_46 (by decide) (fun c46 => ?_) (fun c46 => ?_)
      · have k46 : (zM.toInt : Int) ≤ v5.toInt := i_le rfl rfl c46
        refine lv_iload hx hb dX4_alikeTo_92 (lv_at hl 3 rfl) ?_
        refine lv_iload_n hx hb dX4_alikeTo_94 rfl (lv_at hl 2 rfl) ?_
        refine lv_icmp_ge (tgt := 103) hx hb dX4_alikeTo_95 (by decide) (fun c95 => ?_) (fun c95 => ?_)
        · have k95 : (p1.toInt : Int) ≤ v4.toInt := i_le rfl rfl c95
          refine lv_iload_n hx hb dX4_alikeTo_103 rfl (lv_at hl 2 rfl) ?_
          exact W.iret (v := p1) hx hb hr (fun t ht hW => ⟨⟨p1, (), rfl, (by (try dsimp only); exact (by first | exact ⟨by omega, by omega, al_none bn.2 (fun k hk h => by have := i2 k hk (by omega) h; omega)⟩ | exact ⟨by omega, by omega, al_at hOM bg9.1 bg9.2.2.1 bg9.2.2.2 (by omega) (fun k hk h => by have := i2 k hk (by omega) h; omega)⟩ | exact ⟨by omega, by omega, al_in (by omega)⟩)), by rw [ht]; exact hP, hD⟩, hS.F ht⟩) hS.2.2 dX4_alikeTo_104
        · have k95 : (v4.toInt : Int) < p1.toInt := i_nle rfl rfl c95
          refine lv_iload hx hb dX4_alikeTo_98 (lv_at hl 3 rfl) ?_
          refine lv_goto (tgt := 104) hx hb dX4_alikeTo_100 (by decide) ?_
          exact W.iret (v := v4) hx hb hr (fun t ht hW => ⟨⟨v4, (), rfl, (by (try dsimp only); exact (by first | exact ⟨by omega, by omega, al_none bn.2 (fun k hk h => by have := i2 k hk (by omega) h; omega)⟩ | exact ⟨by omega, by omega, al_at hOM bg9.1 bg9.2.2.1 bg9.2.2.2 (by omega) (fun k hk h => by have := i2 k hk (by omega) h; omega)⟩ | exact ⟨by omega, by omega, al_in (by omega)⟩)), by rw [ht]; exact hP, hD⟩, hS.F ht⟩) hS.2.2 dX4_alikeTo_104
      · have k46 : (v5.toInt : Int) < zM.toInt := i_nle rfl rfl c46
        refine lv_aload_n hx hb dX4_alikeTo_49 rfl (lv_at hl 0 rfl) ?_
        refine va_get (D := G) (ci := 4) (v := .ref qy1) (C := RX4) (T := TX4) (N := 11) hx hb hts hiX4 hown hK hP 0 rfl rfl 0 (by decide) hf7 (fun _ h9 => h9) rfl dX4_alikeTo_50 ?_
        refine lv_iload hx hb dX4_alikeTo_53 (lv_at hl 4 rfl) ?_
        refine va_iald hx hb hK hP 1 0 rfl rfl (vi_in rfl (by omega) (by omega)) dX4_alikeTo_55 ?_
        refine lv_topi (fun x55_3 ex55_3 => ?_)
        have ex55_3 : x55_3 = Mt v5.toInt.toNat := by rw [ex55_3]; exact congrArg _ (cl_nat rfl (by omega))
        have tx55_3 : x55_3.toInt = (Mt v5.toInt.toNat).toInt := by rw [ex55_3]
        have hrg_x55_3 := hrg v5.toInt.toNat (by omega)
        refine lv_iload_n hx hb dX4_alikeTo_56 rfl (lv_at hl 1 rfl) ?_
        refine lv_icmp_le (tgt := 82) hx hb dX4_alikeTo_57 (by decide) (fun c57 => ?_) (fun c57 => ?_)
        · have k57 : (x55_3.toInt : Int) ≤ p0.toInt := i_le rfl rfl c57
          refine lv_iload hx hb dX4_alikeTo_82 (lv_at hl 3 rfl) ?_
          refine lv_istore (lv' := [(4, .int v4), (0, .ref qy), (1, .int p0), (2, .int p1), (5, .int v5)]) hx hb dX4_alikeTo_84  hl (by decide) rfl (fun ls hl => ?_)
          obtain ⟨x86_7, ex86_7⟩ : ∃ y : Int32, y = v5 + 1 := ⟨_, rfl⟩
          have tx86_7 : x86_7.toInt = v5.toInt + 1 := by rw [ex86_7]; exact ti_add rfl (by decide) (by omega) (by omega)
          refine lv_iinc (v := x86_7) (lv' := [(5, .int x86_7), (4, .int v4), (0, .ref qy), (1, .int p0), (2, .int p1)]) hx hb dX4_alikeTo_86 hl (k := 4) rfl (by rw [ex86_7]; rfl) (by decide) rfl (fun ls hl => ?_)
          refine lv_goto (tgt := 40) hx hb dX4_alikeTo_89 (by decide) ?_
          exact ih40 v4 x86_7 ls _ _ ⟨hP, hD, hS, lv_sub hl [2, 3, 4, 1, 0] rfl, (show 0 ≤ x86_7.toInt ∧ x86_7.toInt ≤ nm from by omega), (show ∀ k : Nat, k < nm → (k : Int) < x86_7.toInt → p0.toInt < (Mt k).toInt → v4.toInt ≤ (Mt k).toInt from fun k hk h h2 => (Decidable.em ((k : Int) < v5.toInt)).elim (fun q => by have := i2 k hk q h2; omega) (fun q => by rw [show k = v5.toInt.toNat by omega] at h2 ⊢; omega)), (show p0.toInt < v4.toInt ∧ v4.toInt ≤ T0 from by omega)⟩ (show (nm - x86_7.toInt).toNat < (nm - v5.toInt).toNat from by omega)
        · have k57 : (p0.toInt : Int) < x55_3.toInt := i_nle rfl rfl c57
          refine lv_aload_n hx hb dX4_alikeTo_60 rfl (lv_at hl 0 rfl) ?_
          refine va_get (D := G) (ci := 4) (v := .ref qy1) (C := RX4) (T := TX4) (N := 11) hx hb hts hiX4 hown hK hP 0 rfl rfl 0 (by decide) hf7 (fun _ h9 => h9) rfl dX4_alikeTo_61 ?_
          refine lv_iload hx hb dX4_alikeTo_64 (lv_at hl 4 rfl) ?_
          refine va_iald hx hb hK hP 1 0 rfl rfl (vi_in rfl (by omega) (by omega)) dX4_alikeTo_66 ?_
          refine lv_topi (fun x66_3 ex66_3 => ?_)
          have ex66_3 : x66_3 = Mt v5.toInt.toNat := by rw [ex66_3]; exact congrArg _ (cl_nat rfl (by omega))
          have tx66_3 : x66_3.toInt = (Mt v5.toInt.toNat).toInt := by rw [ex66_3]
          have hrg_x66_3 := hrg v5.toInt.toNat (by omega)
          refine lv_iload hx hb dX4_alikeTo_67 (lv_at hl 3 rfl) ?_
          refine lv_icmp_ge (tgt := 82) hx hb dX4_alikeTo_69 (by decide) (fun c69 => ?_) (fun c69 => ?_)
          · have k69 : (v4.toInt : Int) ≤ x66_3.toInt := i_le rfl rfl c69
            refine lv_iload hx hb dX4_alikeTo_82 (lv_at hl 3 rfl) ?_
            refine lv_istore (lv' := [(4, .int v4), (0, .ref qy), (1, .int p0), (2, .int p1), (5, .int v5)]) hx hb dX4_alikeTo_84  hl (by decide) rfl (fun ls hl => ?_)
            obtain ⟨x86_8, ex86_8⟩ : ∃ y : Int32, y = v5 + 1 := ⟨_, rfl⟩
            have tx86_8 : x86_8.toInt = v5.toInt + 1 := by rw [ex86_8]; exact ti_add rfl (by decide) (by omega) (by omega)
            refine lv_iinc (v := x86_8) (lv' := [(5, .int x86_8), (4, .int v4), (0, .ref qy), (1, .int p0), (2, .int p1)]) hx hb dX4_alikeTo_86 hl (k := 4) rfl (by rw [ex86_8]; rfl) (by decide) rfl (fun ls hl => ?_)
            refine lv_goto (tgt := 40) hx hb dX4_alikeTo_89 (by decide) ?_
            exact ih40 v4 x86_8 ls _ _ ⟨hP, hD, hS, lv_sub hl [2, 3, 4, 1, 0] rfl, (show 0 ≤ x86_8.toInt ∧ x86_8.toInt ≤ nm from by omega), (show ∀ k : Nat, k < nm → (k : Int) < x86_8.toInt → p0.toInt < (Mt k).toInt → v4.toInt ≤ (Mt k).toInt from fun k hk h h2 => (Decidable.em ((k : Int) < v5.toInt)).elim (fun q => by have := i2 k hk q h2; omega) (fun q => by rw [show k = v5.toInt.toNat by omega] at h2 ⊢; omega)), (show p0.toInt < v4.toInt ∧ v4.toInt ≤ T0 from by omega)⟩ (show (nm - x86_8.toInt).toNat < (nm - v5.toInt).toNat from by omega)
          · have k69 : (x66_3.toInt : Int) < v4.toInt := i_nle rfl rfl c69
            refine lv_aload_n hx hb dX4_alikeTo_72 rfl (lv_at hl 0 rfl) ?_
            refine va_get (D := G) (ci := 4) (v := .ref qy1) (C := RX4) (T := TX4) (N := 11) hx hb hts hiX4 hown hK hP 0 rfl rfl 0 (by decide) hf7 (fun _ h9 => h9) rfl dX4_alikeTo_73 ?_
            refine lv_iload hx hb dX4_alikeTo_76 (lv_at hl 4 rfl) ?_
            refine va_iald hx hb hK hP 1 0 rfl rfl (vi_in rfl (by omega) (by omega)) dX4_alikeTo_78 ?_
            refine lv_topi (fun x78_3 ex78_3 => ?_)
            have ex78_3 : x78_3 = Mt v5.toInt.toNat := by rw [ex78_3]; exact congrArg _ (cl_nat rfl (by omega))
            have tx78_3 : x78_3.toInt = (Mt v5.toInt.toNat).toInt := by rw [ex78_3]
            have hrg_x78_3 := hrg v5.toInt.toNat (by omega)
            refine lv_goto (tgt := 84) hx hb dX4_alikeTo_79 (by decide) ?_
            refine lv_istore (lv' := [(4, .int x78_3), (0, .ref qy), (1, .int p0), (2, .int p1), (5, .int v5)]) hx hb dX4_alikeTo_84  hl (by decide) rfl (fun ls hl => ?_)
            obtain ⟨x86_9, ex86_9⟩ : ∃ y : Int32, y = v5 + 1 := ⟨_, rfl⟩
            have tx86_9 : x86_9.toInt = v5.toInt + 1 := by rw [ex86_9]; exact ti_add rfl (by decide) (by omega) (by omega)
            refine lv_iinc (v := x86_9) (lv' := [(5, .int x86_9), (4, .int x78_3), (0, .ref qy), (1, .int p0), (2, .int p1)]) hx hb dX4_alikeTo_86 hl (k := 4) rfl (by rw [ex86_9]; rfl) (by decide) rfl (fun ls hl => ?_)
            refine lv_goto (tgt := 40) hx hb dX4_alikeTo_89 (by decide) ?_
            exact ih40 x78_3 x86_9 ls _ _ ⟨hP, hD, hS, lv_sub hl [2, 3, 4, 1, 0] rfl, (show 0 ≤ x86_9.toInt ∧ x86_9.toInt ≤ nm from by omega), (show ∀ k : Nat, k < nm → (k : Int) < x86_9.toInt → p0.toInt < (Mt k).toInt → x78_3.toInt ≤ (Mt k).toInt from fun k hk h h2 => (Decidable.em ((k : Int) < v5.toInt)).elim (fun q => by have := i2 k hk q h2; omega) (fun q => by rw [show k = v5.toInt.toNat by omega] at h2 ⊢; omega)), (show p0.toInt < x78_3.toInt ∧ x78_3.toInt ≤ T0 from by omega)⟩ (show (nm - x86_9.toInt).toNat < (nm - v5.toInt).toNat from by omega)

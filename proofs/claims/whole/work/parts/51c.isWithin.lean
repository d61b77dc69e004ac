set_option maxHeartbeats 1000000 in
set_option maxRecDepth 100000 in
theorem ct_X4_isWithin (l : Launch) (G : va_G) (cI cL : ClassId) (sz : Nat) (qy : Nat) (qy1 : Nat) (qy2 : Nat) (qy3 : Nat) (qy4 : Nat) (qy5 : Nat) (qy6 : Nat) (qy7 : Nat) (zM : Int32) (zH : Int32) (zT : Int32) (bg : Int64) (Mt : Nat → Int32) (Ms : Nat → Int32) (Mf : Nat → Int32) (Ml : Nat → Int32) (Ht : Nat → Int32) (Hu : Nat → Int32) (Tp : Nat → Int64) (p0 : Int32) (p1 : Int32) (nm : Nat) (hnM : zM.toInt = nm) (hOM : okM nm Mt Ms Mf Ml) (nh : Nat) (hnH : zH.toInt = nh) (hOH : okH nh Ht Hu) (nt : Nat) (hnT : zT.toInt = nt) (hOT : okT nt Tp) (hg : ∀ k : Nat, k < nm → (k : Int) = p1.toInt → (Mt k).toInt = p0.toInt) : Met l yX4_isWithin wsX4_isWithin ({ frames := 0, cells := 0, slots := 0, locals := 0 }) (va_Pc [.ref qy, .int p0, .int p1] (pre0 G cI cL [(qy, .inr (4, [.ref qy1, .ref qy2, .ref qy3, .ref qy4, .int zM, .ref qy5, .ref qy6, .int zH, .ref qy7, .int zT, .long bg])), (qy1, .inl (cI, 40, .inl Mt)), (qy2, .inl (cI, 40, .inl Ms)), (qy3, .inl (cI, 40, .inl Mf)), (qy4, .inl (cI, 40, .inl Ml)), (qy5, .inl (cI, 20, .inl Ht)), (qy6, .inl (cI, 20, .inl Hu)), (qy7, .inl (cL, 40, .inr (.inl Tp)))] sz)) (va_Qi (fun (r : Int32) (u : Unit) => (r.toInt = 1 ∧ insS nm Mt Ms p0.toInt) ∨ (r.toInt = 0 ∧ ¬ insS nm Mt Ms p0.toInt)) (fun (u : Unit) t => va_P G vwCl [(qy, .inr (4, [.ref qy1, .ref qy2, .ref qy3, .ref qy4, .int zM, .ref qy5, .ref qy6, .int zH, .ref qy7, .int zT, .long bg])), (qy1, .inl (cI, 40, .inl Mt)), (qy2, .inl (cI, 40, .inl Ms)), (qy3, .inl (cI, 40, .inl Mf)), (qy4, .inl (cI, 40, .inl Ml)), (qy5, .inl (cI, 20, .inl Ht)), (qy6, .inl (cI, 20, .inl Hu)), (qy7, .inl (cL, 40, .inr (.inl Tp)))] t.heap ∧ va_D (va_A [(qy, .inr (4, [.ref qy1, .ref qy2, .ref qy3, .ref qy4, .int zM, .ref qy5, .ref qy6, .int zH, .ref qy7, .int zT, .long bg])), (qy1, .inl (cI, 40, .inl Mt)), (qy2, .inl (cI, 40, .inl Ms)), (qy3, .inl (cI, 40, .inl Mf)), (qy4, .inl (cI, 40, .inl Ml)), (qy5, .inl (cI, 20, .inl Ht)), (qy6, .inl (cI, 20, .inl Hu)), (qy7, .inl (cL, 40, .inr (.inl Tp)))] sz) [(qy, .inr (4, [.ref qy1, .ref qy2, .ref qy3, .ref qy4, .int zM, .ref qy5, .ref qy6, .int zH, .ref qy7, .int zT, .long bg])), (qy1, .inl (cI, 40, .inl Mt)), (qy2, .inl (cI, 40, .inl Ms)), (qy3, .inl (cI, 40, .inl Mf)), (qy4, .inl (cI, 40, .inl Ml)), (qy5, .inl (cI, 20, .inl Ht)), (qy6, .inl (cI, 20, .inl Hu)), (qy7, .inl (cL, 40, .inr (.inl Tp)))]) (va_A [(qy, .inr (4, [.ref qy1, .ref qy2, .ref qy3, .ref qy4, .int zM, .ref qy5, .ref qy6, .int zH, .ref qy7, .int zT, .long bg])), (qy1, .inl (cI, 40, .inl Mt)), (qy2, .inl (cI, 40, .inl Ms)), (qy3, .inl (cI, 40, .inl Mf)), (qy4, .inl (cI, 40, .inl Ml)), (qy5, .inl (cI, 20, .inl Ht)), (qy6, .inl (cI, 20, .inl Hu)), (qy7, .inl (cL, 40, .inr (.inl Tp)))] sz)) 0 0 (va_A [(qy, .inr (4, [.ref qy1, .ref qy2, .ref qy3, .ref qy4, .int zM, .ref qy5, .ref qy6, .int zH, .ref qy7, .int zT, .long bg])), (qy1, .inl (cI, 40, .inl Mt)), (qy2, .inl (cI, 40, .inl Ms)), (qy3, .inl (cI, 40, .inl Mf)), (qy4, .inl (cI, 40, .inl Ml)), (qy5, .inl (cI, 20, .inl Ht)), (qy6, .inl (cI, 20, .inl Hu)), (qy7, .inl (cL, 40, .inr (.inl Tp)))] sz) := by
  refine Met.ofW (cc := cX4_isWithin) (maxL := 5) (ret := (some .boolean)) (by decide) rfl ?_
  intro p e s m args below meth c s₁ B hml hv
  obtain ⟨rfl, hsz, hP, hK, hD0, hN⟩ := hv
  have hx := B.exec
  have hb := B.bytes
  have hr := B.returns
  have hts := atoms_spec (ws := wsX4_isWithin) B.pre
  have hown : s.vm.findClass RX4 = some m.cls := findClass_of_methodNamed B.named
  have hlocks := B.notSynchronized
  subst hsz
  have hD := hD0.self (sz := s.heap.size)
  generalize hAe : va_A [(qy, .inr (4, [.ref qy1, .ref qy2, .ref qy3, .ref qy4, .int zM, .ref qy5, .ref qy6, .int zH, .ref qy7, .int zT, .long bg])), (qy1, .inl (cI, 40, .inl Mt)), (qy2, .inl (cI, 40, .inl Ms)), (qy3, .inl (cI, 40, .inl Mf)), (qy4, .inl (cI, 40, .inl Ml)), (qy5, .inl (cI, 20, .inl Ht)), (qy6, .inl (cI, 20, .inl Hu)), (qy7, .inl (cL, 40, .inr (.inl Tp)))] s.heap.size = A at hD ⊢
  have hA : ∀ q : Nat, s.heap.size ≤ q → A q := fun q h => by rw [← hAe]; exact Or.inr h
  have hP : va_P G vwCl [(qy, .inr (4, [.ref qy1, .ref qy2, .ref qy3, .ref qy4, .int zM, .ref qy5, .ref qy6, .int zH, .ref qy7, .int zT, .long bg])), (qy1, .inl (cI, 40, .inl Mt)), (qy2, .inl (cI, 40, .inl Ms)), (qy3, .inl (cI, 40, .inl Mf)), (qy4, .inl (cI, 40, .inl Ml)), (qy5, .inl (cI, 20, .inl Ht)), (qy6, .inl (cI, 20, .inl Hu)), (qy7, .inl (cL, 40, .inr (.inl Tp)))] s.heap := hP
  have hl := lv_entry ([.ref qy, .int p0, .int p1]) (n := 5) (Nat.le_of_ble_eq_true rfl)
  rw [lg_entry_eq]
  generalize (lg_sl ([.ref qy, .int p0, .int p1]) ++ List.replicate (5 - (lg_sl ([.ref qy, .int p0, .int p1])).length) Slot.unset).toArray = ls at hl ⊢
  have hl : lv_has ls 5 [(0, .ref qy), (1, .int p0), (2, .int p1)] := hl
  have hf32 := hts (.fieldLink RX4 32 "TempoMapsModel" "marks" "I") (by decide +kernel)
  have hf7 := hts (.fieldLink RX4 7 "TempoMapsModel" "markTick" "[I") (by decide +kernel)
  have hf13 := hts (.fieldLink RX4 13 "TempoMapsModel" "markLong" "[I") (by decide +kernel)
  have hiX4 : ∀ w ∈ wsX40, w ∈ wsX4_isWithin := by decide +kernel
  have zi0 : ((0 : Int32)).toInt = 0 := by decide
  have zi1 : ((1 : Int32)).toInt = 1 := by decide
  refine w_h (A := A) hP (fun H locs hP hS => ?_)
  have hn40 := hOM.1
  have hrg := hOM.2.1
  have hn20 := hOH.1
  have hrh := hOH.2.1
  have hn41 := hOT.1
  have hrt := hOT.2.1
  have zz0 : ((0 : Int32)).toInt = 0 := by decide
  refine lv_iconst (v := 0) hx hb dX4_isWithin_0 (by decide) ?_
  refine lv_istore_n (lv' := [(3, .int 0), (0, .ref qy), (1, .int p0), (2, .int p1)]) hx hb dX4_isWithin_1 rfl hl (by decide) rfl (fun ls hl => ?_)
  refine lv_iconst (v := 0) hx hb dX4_isWithin_2 (by decide) ?_
  refine lv_istore (lv' := [(4, .int 0), (3, .int 0), (0, .ref qy), (1, .int p0), (2, .int p1)]) hx hb dX4_isWithin_3  hl (by decide) rfl (fun ls hl => ?_)
  refine W_loop2 (fun (v3 : Int32) (v4 : Int32) ls H locs => va_P G vwCl [(qy, .inr (4, [.ref qy1, .ref qy2, .ref qy3, .ref qy4, .int zM, .ref qy5, .ref qy6, .int zH, .ref qy7, .int zT, .long bg])), (qy1, .inl (cI, 40, .inl Mt)), (qy2, .inl (cI, 40, .inl Ms)), (qy3, .inl (cI, 40, .inl Mf)), (qy4, .inl (cI, 40, .inl Ml)), (qy5, .inl (cI, 20, .inl Ht)), (qy6, .inl (cI, 20, .inl Hu)), (qy7, .inl (cL, 40, .inr (.inl Tp)))] H ∧ va_D A [(qy, .inr (4, [.ref qy1, .ref qy2, .ref qy3, .ref qy4, .int zM, .ref qy5, .ref qy6, .int zH, .ref qy7, .int zT, .long bg])), (qy1, .inl (cI, 40, .inl Mt)), (qy2, .inl (cI, 40, .inl Ms)), (qy3, .inl (cI, 40, .inl Mf)), (qy4, .inl (cI, 40, .inl Ml)), (qy5, .inl (cI, 20, .inl Ht)), (qy6, .inl (cI, 20, .inl Hu)), (qy7, .inl (cL, 40, .inr (.inl Tp)))] ∧ va_S A s.heap H locs ∧ lv_has ls 5 [(0, .ref qy), (1, .int p0), (2, .int p1), (3, .int v3), (4, .int v4)] ∧ (0 ≤ v4.toInt ∧ v4.toInt ≤ nm) ∧ ((v3.toInt = 1 ∧ insS (v4.toInt.toNat) Mt Ms p0.toInt) ∨ (v3.toInt = 0 ∧ ¬ insS (v4.toInt.toNat) Mt Ms p0.toInt))) (fun (v3 : Int32) (v4 : Int32) => (nm - v4.toInt).toNat) (fun v3 v4 ls H locs hI ih5 => ?_) (0 : Int32) (0 : Int32) ls _ _ ⟨hP, hD, hS, lv_sub hl [2, 3, 4, 1, 0] rfl, (show 0 ≤ (0 : Int32).toInt ∧ (0 : Int32).toInt ≤ nm from by omega), (show ((0 : Int32).toInt = 1 ∧ insS ((0 : Int32).toInt.toNat) Mt Ms p0.toInt) ∨ ((0 : Int32).toInt = 0 ∧ ¬ insS ((0 : Int32).toInt.toNat) Mt Ms p0.toInt) from Or.inr ⟨zi0, by rw [zi0]; exact ins_z⟩)⟩
  obtain ⟨hP, hD, hS, hl, i1, i2⟩ := hI
  refine lv_iload hx hb dX4_isWithin_5 (lv_at hl 4 rfl) ?_
  refine lv_aload_n hx hb dX4_isWithin_7 rfl (lv_at hl 0 rfl) ?_
  refine va_get (D := G) (ci := 4) (v := .int zM) (C := RX4) (T := TX4) (N := 11) hx hb hts hiX4 hown hK hP 0 rfl rfl 4 (by decide) hf32 (fun _ h9 => h9) rfl dX4_isWithin_8 ?_
  refine lv_icmp_ge (tgt := 66) hx hb dX4_isWithin_11 (by decide) (fun c11 => ?_) (fun c11 => ?_)
  · have k11 : (zM.toInt : Int) ≤ v4.toInt := i_le rfl rfl c11
    refine lv_iload_n hx hb dX4_isWithin_66 rfl (lv_at hl 3 rfl) ?_
    exact W.zret (v := v3) hx hb hr (by rcases i2 with h | h; rw [i_ext (y := 1) (h.1.trans (by decide))]; rfl; rw [i_ext (y := 0) (h.1.trans (by decide))]; rfl) (fun t ht hW => ⟨⟨v3, (), rfl, (by (try dsimp only); exact (by rw [show v4.toInt.toNat = nm by omega] at i2; exact i2)), by rw [ht]; exact hP, hD⟩, hS.F ht⟩) hS.2.2 dX4_isWithin_67
  · have k11 : (v4.toInt : Int) < zM.toInt := i_nle rfl rfl c11
    refine lv_iload_n hx hb dX4_isWithin_14 rfl (lv_at hl 3 rfl) ?_
    refine lv_if_ne (tgt := 54) hx hb dX4_isWithin_15 (by decide) (fun c15 => ?_) (fun c15 => ?_)
    · have k15 : (v3.toInt : Int) ≠ 0 := i_ne rfl (show ((0 : Int32)).toInt = 0 by decide) c15
      refine lv_iconst (v := 1) hx hb dX4_isWithin_54 (by decide) ?_
      refine lv_goto (tgt := 59) hx hb dX4_isWithin_55 (by decide) ?_
      refine lv_istore_n (lv' := [(3, .int 1), (0, .ref qy), (1, .int p0), (2, .int p1), (4, .int v4)]) hx hb dX4_isWithin_59 rfl hl (by decide) rfl (fun ls hl => ?_)
      obtain ⟨x60, ex60⟩ : ∃ y : Int32, y = v4 + 1 := ⟨_, rfl⟩
      have tx60 : x60.toInt = v4.toInt + 1 := by rw [ex60]; exact ti_add rfl (by decide) (by omega) (by omega)
      refine lv_iinc (v := x60) (lv' := [(4, .int x60), (3, .int 1), (0, .ref qy), (1, .int p0), (2, .int p1)]) hx hb dX4_isWithin_60 hl (k := 4) rfl (by rw [ex60]; rfl) (by decide) rfl (fun ls hl => ?_)
      refine lv_goto (tgt := 5) hx hb dX4_isWithin_63 (by decide) ?_
      exact ih5 (1 : Int32) x60 ls _ _ ⟨hP, hD, hS, lv_sub hl [2, 3, 4, 1, 0] rfl, (show 0 ≤ x60.toInt ∧ x60.toInt ≤ nm from by omega), (show ((1 : Int32).toInt = 1 ∧ insS (x60.toInt.toNat) Mt Ms p0.toInt) ∨ ((1 : Int32).toInt = 0 ∧ ¬ insS (x60.toInt.toNat) Mt Ms p0.toInt) from by rw [show x60.toInt.toNat = v4.toInt.toNat + 1 by omega, ins_s]; (try have hg9 := hg v4.toInt.toNat (by omega) (by omega)); (first | exact Or.inl ⟨by omega, Or.inr (by omega)⟩ | exact Or.inr ⟨by omega, by rintro (h | h); (rcases i2 with i2 | i2; omega; exact i2.2 h); omega⟩ | (rcases i2 with i2 | i2; exact Or.inl ⟨by omega, Or.inl i2.2⟩; omega)))⟩ (show (nm - x60.toInt).toNat < (nm - v4.toInt).toNat from by omega)
    · have k15 : (v3.toInt : Int) = 0 := i_eq rfl (show ((0 : Int32)).toInt = 0 by decide) c15
      refine lv_iload hx hb dX4_isWithin_18 (lv_at hl 4 rfl) ?_
      refine lv_iload_n hx hb dX4_isWithin_20 rfl (lv_at hl 2 rfl) ?_
      refine lv_icmp_eq (tgt := 58) hx hb dX4_isWithin_21 (by decide) (fun c21 => ?_) (fun c21 => ?_)
      · have k21 : (v4.toInt : Int) = p1.toInt := i_eq rfl rfl c21
        refine lv_iconst (v := 0) hx hb dX4_isWithin_58 (by decide) ?_
        refine lv_istore_n (lv' := [(3, .int 0), (0, .ref qy), (1, .int p0), (2, .int p1), (4, .int v4)]) hx hb dX4_isWithin_59 rfl hl (by decide) rfl (fun ls hl => ?_)
        obtain ⟨x60_2, ex60_2⟩ : ∃ y : Int32, y = v4 + 1 := ⟨_, rfl⟩
        have tx60_2 : x60_2.toInt = v4.toInt + 1 := by rw [ex60_2]; exact ti_add rfl (by decide) (by omega) (by omega)
        refine lv_iinc (v := x60_2) (lv' := [(4, .int x60_2), (3, .int 0), (0, .ref qy), (1, .int p0), (2, .int p1)]) hx hb dX4_isWithin_60 hl (k := 4) rfl (by rw [ex60_2]; rfl) (by decide) rfl (fun ls hl => ?_)
        refine lv_goto (tgt := 5) hx hb dX4_isWithin_63 (by decide) ?_
        exact ih5 (0 : Int32) x60_2 ls _ _ ⟨hP, hD, hS, lv_sub hl [2, 3, 4, 1, 0] rfl, (show 0 ≤ x60_2.toInt ∧ x60_2.toInt ≤ nm from by omega), (show ((0 : Int32).toInt = 1 ∧ insS (x60_2.toInt.toNat) Mt Ms p0.toInt) ∨ ((0 : Int32).toInt = 0 ∧ ¬ insS (x60_2.toInt.toNat) Mt Ms p0.toInt) from by rw [show x60_2.toInt.toNat = v4.toInt.toNat + 1 by omega, ins_s]; (try have hg9 := hg v4.toInt.toNat (by omega) (by omega)); (first | exact Or.inl ⟨by omega, Or.inr (by omega)⟩ | exact Or.inr ⟨by omega, by rintro (h | h); (rcases i2 with i2 | i2; omega; exact i2.2 h); omega⟩ | (rcases i2 with i2 | i2; exact Or.inl ⟨by omega, Or.inl i2.2⟩; omega)))⟩ (show (nm - x60_2.toInt).toNat < (nm - v4.toInt).toNat from by omega)
      · have k21 : (v4.toInt : Int) ≠ p1.toInt := i_ne rfl rfl c21
        refine lv_iload_n hx hb dX4_isWithin_24 rfl (lv_at hl 1 rfl) ?_
        refine lv_aload_n hx hb dX4_isWithin_25 rfl (lv_at hl 0 rfl) ?_
        refine va_get (D := G) (ci := 4) (v := .ref qy1) (C := RX4) (T := TX4) (N := 11) hx hb hts hiX4 hown hK hP 0 rfl rfl 0 (by decide) hf7 (fun _ h9 => h9) rfl dX4_isWithin_26 ?_
        refine lv_iload hx hb dX4_isWithin_29 (lv_at hl 4 rfl) ?_
        refine va_iald hx hb hK hP 1 0 rfl rfl (vi_in rfl (by omega) (by omega)) dX4_isWithin_31 ?_
        refine lv_topi (fun x31 ex31 => ?_)
        have ex31 : x31 = Mt v4.toInt.toNat := by rw [ex31]; exact congrArg _ (cl_nat rfl (by omega))
        have tx31 : x31.toInt = (Mt v4.toInt.toNat).toInt := by rw [ex31]
        have hrg_x31 := hrg v4.toInt.toNat (by omega)
        refine lv_icmp_le (tgt := 58) hx hb dX4_isWithin_32 (by decide) (fun c32 => ?_) (fun c32 => ?_)
        · have k32 : (p0.toInt : Int) ≤ x31.toInt := i_le rfl rfl c32
          refine lv_iconst (v := 0) hx hb dX4_isWithin_58 (by decide) ?_
          refine lv_istore_n (lv' := [(3, .int 0), (0, .ref qy), (1, .int p0), (2, .int p1), (4, .int v4)]) hx hb dX4_isWithin_59 rfl hl (by decide) rfl (fun ls hl => ?_)
          obtain ⟨x60_3, ex60_3⟩ : ∃ y : Int32, y = v4 + 1 := ⟨_, rfl⟩
          have tx60_3 : x60_3.toInt = v4.toInt + 1 := by rw [ex60_3]; exact ti_add rfl (by decide) (by omega) (by omega)
          refine lv_iinc (v := x60_3) (lv' := [(4, .int x60_3), (3, .int 0), (0, .ref qy), (1, .int p0), (2, .int p1)]) hx hb dX4_isWithin_60 hl (k := 4) rfl (by rw [ex60_3]; rfl) (by decide) rfl (fun ls hl => ?_)
          refine lv_goto (tgt := 5) hx hb dX4_isWithin_63 (by decide) ?_
          exact ih5 (0 : Int32) x60_3 ls _ _ ⟨hP, hD, hS, lv_sub hl [2, 3, 4, 1, 0] rfl, (show 0 ≤ x60_3.toInt ∧ x60_3.toInt ≤ nm from by omega), (show ((0 : Int32).toInt = 1 ∧ insS (x60_3.toInt.toNat) Mt Ms p0.toInt) ∨ ((0 : Int32).toInt = 0 ∧ ¬ insS (x60_3.toInt.toNat) Mt Ms p0.toInt) from by rw [show x60_3.toInt.toNat = v4.toInt.toNat + 1 by omega, ins_s]; (try have hg9 := hg v4.toInt.toNat (by omega) (by omega)); (first | exact Or.inl ⟨by omega, Or.inr (by omega)⟩ | exact Or.inr ⟨by omega, by rintro (h | h); (rcases i2 with i2 | i2; omega; exact i2.2 h); omega⟩ | (rcases i2 with i2 | i2; exact Or.inl ⟨by omega, Or.inl i2.2⟩; omega)))⟩ (show (nm - x60_3.toInt).toNat < (nm - v4.toInt).toNat from by omega)
        · have k32 : (x31.toInt : Int) < p0.toInt := i_nle rfl rfl c32
          refine lv_iload_n hx hb dX4_isWithin_35 rfl (lv_at hl 1 rfl) ?_
          refine lv_aload_n hx hb dX4_isWithin_36 rfl (lv_at hl 0 rfl) ?_
          refine va_get (D := G) (ci := 4) (v := .ref qy1) (C := RX4) (T := TX4) (N := 11) hx hb hts hiX4 hown hK hP 0 rfl rfl 0 (by decide) hf7 (fun _ h9 => h9) rfl dX4_isWithin_37 ?_
          refine lv_iload hx hb dX4_isWithin_40 (lv_at hl 4 rfl) ?_
          refine va_iald hx hb hK hP 1 0 rfl rfl (vi_in rfl (by omega) (by omega)) dX4_isWithin_42 ?_
          refine lv_topi (fun x42 ex42 => ?_)
          have ex42 : x42 = Mt v4.toInt.toNat := by rw [ex42]; exact congrArg _ (cl_nat rfl (by omega))
          have tx42 : x42.toInt = (Mt v4.toInt.toNat).toInt := by rw [ex42]
          have hrg_x42 := hrg v4.toInt.toNat (by omega)
          refine lv_aload_n hx hb dX4_isWithin_43 rfl (lv_at hl 0 rfl) ?_
          refine va_get (D := G) (ci := 4) (v := .ref qy2) (C := RX4) (T := TX4) (N := 11) hx hb hts hiX4 hown hK hP 0 rfl rfl 1 (by decide) hf13 (fun _ h9 => h9) rfl dX4_isWithin_44 ?_
          refine lv_iload hx hb dX4_isWithin_47 (lv_at hl 4 rfl) ?_
          refine va_iald hx hb hK hP 2 0 rfl rfl (vi_in rfl (by omega) (by omega)) dX4_isWithin_49 ?_
          refine lv_topi (fun x49 ex49 => ?_)
          have ex49 : x49 = Ms v4.toInt.toNat := by rw [ex49]; exact congrArg _ (cl_nat rfl (by omega))
          have tx49 : x49.toInt = (Ms v4.toInt.toNat).toInt := by rw [ex49]
          have hrg_x49 := hrg v4.toInt.toNat (by omega)
          refine lv_iadd hx hb dX4_isWithin_50 ?_
          refine lv_topi (fun x50 ex50 => ?_)
          have tx50 : x50.toInt = x42.toInt + x49.toInt := by rw [ex50]; exact ti_add rfl rfl (by omega) (by omega)
          refine lv_icmp_ge (tgt := 58) hx hb dX4_isWithin_51 (by decide) (fun c51 => ?_) (fun c51 => ?_)
          · have k51 : (x50.toInt : Int) ≤ p0.toInt := i_le rfl rfl c51
            refine lv_iconst (v := 0) hx hb dX4_isWithin_58 (by decide) ?_
            refine lv_istore_n (lv' := [(3, .int 0), (0, .ref qy), (1, .int p0), (2, .int p1), (4, .int v4)]) hx hb dX4_isWithin_59 rfl hl (by decide) rfl (fun ls hl => ?_)
            obtain ⟨x60_4, ex60_4⟩ : ∃ y : Int32, y = v4 + 1 := ⟨_, rfl⟩
            have tx60_4 : x60_4.toInt = v4.toInt + 1 := by rw [ex60_4]; exact ti_add rfl (by decide) (by omega) (by omega)
            refine lv_iinc (v := x60_4) (lv' := [(4, .int x60_4), (3, .int 0), (0, .ref qy), (1, .int p0), (2, .int p1)]) hx hb dX4_isWithin_60 hl (k := 4) rfl (by rw [ex60_4]; rfl) (by decide) rfl (fun ls hl => ?_)
            refine lv_goto (tgt := 5) hx hb dX4_isWithin_63 (by decide) ?_
            exact ih5 (0 : Int32) x60_4 ls _ _ ⟨hP, hD, hS, lv_sub hl [2, 3, 4, 1, 0] rfl, (show 0 ≤ x60_4.toInt ∧ x60_4.toInt ≤ nm from by omega), (show ((0 : Int32).toInt = 1 ∧ insS (x60_4.toInt.toNat) Mt Ms p0.toInt) ∨ ((0 : Int32).toInt = 0 ∧ ¬ insS (x60_4.toInt.toNat) Mt Ms p0.toInt) from by rw [show x60_4.toInt.toNat = v4.toInt.toNat + 1 by omega, ins_s]; (try have hg9 := hg v4.toInt.toNat (by omega) (by omega)); (first | exact Or.inl ⟨by omega, Or.inr (by omega)⟩ | exact Or.inr ⟨by omega, by rintro (h | h); (rcases i2 with i2 | i2; omega; exact i2.2 h); omega⟩ | (rcases i2 with i2 | i2; exact Or.inl ⟨by omega, Or.inl i2.2⟩; omega)))⟩ (show (nm - x60_4.toInt).toNat < (nm - v4.toInt).toNat from by omega)
          · have k51 : (p0.toInt : Int) < x50.toInt := i_nle rfl rfl c51
            refine lv_iconst (v := 1) hx hb dX4_isWithin_54 (by decide) ?_
            refine lv_goto (tgt := 59) hx hb dX4_isWithin_55 (by decide) ?_
            refine lv_istore_n (lv' := [(3, .int 1), (0, .ref qy), (1, .int p0), (2, .int p1), (4, .int v4)]) hx hb dX4_isWithin_59 rfl hl (by decide) rfl (fun ls hl => ?_)
            obtain ⟨x60_5, ex60_5⟩ : ∃ y : Int32, y = v4 + 1 := ⟨_, rfl⟩
            have tx60_5 : x60_5.toInt = v4.toInt + 1 := by rw [ex60_5]; exact ti_add rfl (by decide) (by omega) (by omega)
            refine lv_iinc (v := x60_5) (lv' := [(4, .int x60_5), (3, .int 1), (0, .ref qy), (1, .int p0), (2, .int p1)]) hx hb dX4_isWithin_60 hl (k := 4) rfl (by rw [ex60_5]; rfl) (by decide) rfl (fun ls hl => ?_)
            refine lv_goto (tgt := 5) hx hb dX4_isWithin_63 (by decide) ?_
            exact ih5 (1 : Int32) x60_5 ls _ _ ⟨hP, hD, hS, lv_sub hl [2, 3, 4, 1, 0] rfl, (show 0 ≤ x60_5.toInt ∧ x60_5.toInt ≤ nm from by omega), (show ((1 : Int32).toInt = 1 ∧ insS (x60_5.toInt.toNat) Mt Ms p0.toInt) ∨ ((1 : Int32).toInt = 0 ∧ ¬ insS (x60_5.toInt.toNat) Mt Ms p0.toInt) from by rw [show x60_5.toInt.toNat = v4.toInt.toNat + 1 by omega, ins_s]; (try have hg9 := hg v4.toInt.toNat (by omega) (by omega)); (first | exact Or.inl ⟨by omega, Or.inr (by omega)⟩ | exact Or.inr ⟨by omega, by rintro (h | h); (rcases i2 with i2 | i2; omega; exact i2.2 h); omega⟩ | (rcases i2 with i2 | i2; exact Or.inl ⟨by omega, Or.inl i2.2⟩; omega)))⟩ (show (nm - x60_5.toInt).toNat < (nm - v4.toInt).toNat from by omega)

set_option maxHeartbeats 1000000 in
set_option maxRecDepth 100000 in
theorem ct_X4_holdsOther (l : Launch) (G : va_G) (cI cL : ClassId) (sz : Nat) (qy : Nat) (qy1 : Nat) (qy2 : Nat) (qy3 : Nat) (qy4 : Nat) (qy5 : Nat) (qy6 : Nat) (qy7 : Nat) (zM : Int32) (zH : Int32) (zT : Int32) (bg : Int64) (Mt : Nat → Int32) (Ms : Nat → Int32) (Mf : Nat → Int32) (Ml : Nat → Int32) (Ht : Nat → Int32) (Hu : Nat → Int32) (Tp : Nat → Int64) (p0 : Int32) (p1 : Int32) (nm : Nat) (hnM : zM.toInt = nm) (hOM : okM nm Mt Ms Mf Ml) (nh : Nat) (hnH : zH.toInt = nh) (hOH : okH nh Ht Hu) (nt : Nat) (hnT : zT.toInt = nt) (hOT : okT nt Tp) (hp : 0 ≤ p0.toInt ∧ p0.toInt ≤ 1000000 ∧ 0 ≤ p1.toInt ∧ p1.toInt ≤ 2000) : Met l yX4_holdsOther wsX4_holdsOther ({ frames := 0, cells := 0, slots := 0, locals := 0 }) (va_Pc [.ref qy, .int p0, .int p1] (pre0 G cI cL [(qy, .inr (4, [.ref qy1, .ref qy2, .ref qy3, .ref qy4, .int zM, .ref qy5, .ref qy6, .int zH, .ref qy7, .int zT, .long bg])), (qy1, .inl (cI, 40, .inl Mt)), (qy2, .inl (cI, 40, .inl Ms)), (qy3, .inl (cI, 40, .inl Mf)), (qy4, .inl (cI, 40, .inl Ml)), (qy5, .inl (cI, 20, .inl Ht)), (qy6, .inl (cI, 20, .inl Hu)), (qy7, .inl (cL, 40, .inr (.inl Tp)))] sz)) (va_Qi (fun (r : Int32) (u : Unit) => (r.toInt = 1 ∧ btw nm Mt p0.toInt (p0.toInt + p1.toInt)) ∨ (r.toInt = 0 ∧ ¬ btw nm Mt p0.toInt (p0.toInt + p1.toInt))) (fun (u : Unit) t => va_P G vwCl [(qy, .inr (4, [.ref qy1, .ref qy2, .ref qy3, .ref qy4, .int zM, .ref qy5, .ref qy6, .int zH, .ref qy7, .int zT, .long bg])), (qy1, .inl (cI, 40, .inl Mt)), (qy2, .inl (cI, 40, .inl Ms)), (qy3, .inl (cI, 40, .inl Mf)), (qy4, .inl (cI, 40, .inl Ml)), (qy5, .inl (cI, 20, .inl Ht)), (qy6, .inl (cI, 20, .inl Hu)), (qy7, .inl (cL, 40, .inr (.inl Tp)))] t.heap ∧ va_D (va_A [(qy, .inr (4, [.ref qy1, .ref qy2, .ref qy3, .ref qy4, .int zM, .ref qy5, .ref qy6, .int zH, .ref qy7, .int zT, .long bg])), (qy1, .inl (cI, 40, .inl Mt)), (qy2, .inl (cI, 40, .inl Ms)), (qy3, .inl (cI, 40, .inl Mf)), (qy4, .inl (cI, 40, .inl Ml)), (qy5, .inl (cI, 20, .inl Ht)), (qy6, .inl (cI, 20, .inl Hu)), (qy7, .inl (cL, 40, .inr (.inl Tp)))] sz) [(qy, .inr (4, [.ref qy1, .ref qy2, .ref qy3, .ref qy4, .int zM, .ref qy5, .ref qy6, .int zH, .ref qy7, .int zT, .long bg])), (qy1, .inl (cI, 40, .inl Mt)), (qy2, .inl (cI, 40, .inl Ms)), (qy3, .inl (cI, 40, .inl Mf)), (qy4, .inl (cI, 40, .inl Ml)), (qy5, .inl (cI, 20, .inl Ht)), (qy6, .inl (cI, 20, .inl Hu)), (qy7, .inl (cL, 40, .inr (.inl Tp)))]) (va_A [(qy, .inr (4, [.ref qy1, .ref qy2, .ref qy3, .ref qy4, .int zM, .ref qy5, .ref qy6, .int zH, .ref qy7, .int zT, .long bg])), (qy1, .inl (cI, 40, .inl Mt)), (qy2, .inl (cI, 40, .inl Ms)), (qy3, .inl (cI, 40, .inl Mf)), (qy4, .inl (cI, 40, .inl Ml)), (qy5, .inl (cI, 20, .inl Ht)), (qy6, .inl (cI, 20, .inl Hu)), (qy7, .inl (cL, 40, .inr (.inl Tp)))] sz)) 0 0 (va_A [(qy, .inr (4, [.ref qy1, .ref qy2, .ref qy3, .ref qy4, .int zM, .ref qy5, .ref qy6, .int zH, .ref qy7, .int zT, .long bg])), (qy1, .inl (cI, 40, .inl Mt)), (qy2, .inl (cI, 40, .inl Ms)), (qy3, .inl (cI, 40, .inl Mf)), (qy4, .inl (cI, 40, .inl Ml)), (qy5, .inl (cI, 20, .inl Ht)), (qy6, .inl (cI, 20, .inl Hu)), (qy7, .inl (cL, 40, .inr (.inl Tp)))] sz) := by
  refine Met.ofW (cc := cX4_holdsOther) (maxL := 5) (ret := (some .boolean)) (by decide) rfl ?_
  intro p e s m args below meth c s₁ B hml hv
  obtain ⟨rfl, hsz, hP, hK, hD0, hN⟩ := hv
  have hx := B.exec
  have hb := B.bytes
  have hr := B.returns
  have hts := atoms_spec (ws := wsX4_holdsOther) B.pre
  have hown : s.vm.findClass RX4 = some m.cls := findClass_of_methodNamed B.named
  have hlocks := B.notSynchronized
  subst hsz
  have hD := hD0.self (sz := s.heap.size)
  generalize hAe : va_A [(qy, .inr (4, [.ref qy1, .ref qy2, .ref qy3, .ref qy4, .int zM, .ref qy5, .ref qy6, .int zH, .ref qy7, .int zT, .long bg])), (qy1, .inl (cI, 40, .inl Mt)), (qy2, .inl (cI, 40, .inl Ms)), (qy3, .inl (cI, 40, .inl Mf)), (qy4, .inl (cI, 40, .inl Ml)), (qy5, .inl (cI, 20, .inl Ht)), (qy6, .inl (cI, 20, .inl Hu)), (qy7, .inl (cL, 40, .inr (.inl Tp)))] s.heap.size = A at hD ⊢
  have hA : ∀ q : Nat, s.heap.size ≤ q → A q := fun q h => by rw [← hAe]; exact Or.inr h
  have hP : va_P G vwCl [(qy, .inr (4, [.ref qy1, .ref qy2, .ref qy3, .ref qy4, .int zM, .ref qy5, .ref qy6, .int zH, .ref qy7, .int zT, .long bg])), (qy1, .inl (cI, 40, .inl Mt)), (qy2, .inl (cI, 40, .inl Ms)), (qy3, .inl (cI, 40, .inl Mf)), (qy4, .inl (cI, 40, .inl Ml)), (qy5, .inl (cI, 20, .inl Ht)), (qy6, .inl (cI, 20, .inl Hu)), (qy7, .inl (cL, 40, .inr (.inl Tp)))] s.heap := hP
  have hl := lv_entry ([.ref qy, .int p0, .int p1]) (n := 5) (Nat.le_of_ble_eq_true rfl)
  rw [lg_entry_eq]
  generalize (lg_sl ([.ref qy, .int p0, .int p1]) ++ List.replicate (5 - (lg_sl ([.ref qy, .int p0, .int p1])).length) Slot.unset).toArray = ls at hl ⊢
  have hl : lv_has ls 5 [(0, .ref qy), (1, .int p0), (2, .int p1)] := hl
  have hf32 := hts (.fieldLink RX4 32 "TempoMapsModel" "marks" "I") (by decide +kernel)
  have hf7 := hts (.fieldLink RX4 7 "TempoMapsModel" "markTick" "[I") (by decide +kernel)
  have hiX4 : ∀ w ∈ wsX40, w ∈ wsX4_holdsOther := by decide +kernel
  have zi0 : ((0 : Int32)).toInt = 0 := by decide
  have zi1 : ((1 : Int32)).toInt = 1 := by decide
  refine w_h (A := A) hP (fun H locs hP hS => ?_)
  have hn40 := hOM.1
  have hrg := hOM.2.1
  have hn20 := hOH.1
  have hrh := hOH.2.1
  have hn41 := hOT.1
  have hrt := hOT.2.1
  have zz0 : ((0 : Int32)).toInt = 0 := by decide
  refine lv_iconst (v := 0) hx hb dX4_holdsOther_0 (by decide) ?_
  refine lv_istore_n (lv' := [(3, .int 0), (0, .ref qy), (1, .int p0), (2, .int p1)]) hx hb dX4_holdsOther_1 rfl hl (by decide) rfl (fun ls hl => ?_)
  refine lv_iconst (v := 0) hx hb dX4_holdsOther_2 (by decide) ?_
  refine lv_istore (lv' := [(4, .int 0), (3, .int 0), (0, .ref qy), (1, .int p0), (2, .int p1)]) hx hb dX4_holdsOther_3  hl (by decide) rfl (fun ls hl => ?_)
  refine W_loop2 (fun (v3 : Int32) (v4 : Int32) ls H locs => va_P G vwCl [(qy, .inr (4, [.ref qy1, .ref qy2, .ref qy3, .ref qy4, .int zM, .ref qy5, .ref qy6, .int zH, .ref qy7, .int zT, .long bg])), (qy1, .inl (cI, 40, .inl Mt)), (qy2, .inl (cI, 40, .inl Ms)), (qy3, .inl (cI, 40, .inl Mf)), (qy4, .inl (cI, 40, .inl Ml)), (qy5, .inl (cI, 20, .inl Ht)), (qy6, .inl (cI, 20, .inl Hu)), (qy7, .inl (cL, 40, .inr (.inl Tp)))] H ∧ va_D A [(qy, .inr (4, [.ref qy1, .ref qy2, .ref qy3, .ref qy4, .int zM, .ref qy5, .ref qy6, .int zH, .ref qy7, .int zT, .long bg])), (qy1, .inl (cI, 40, .inl Mt)), (qy2, .inl (cI, 40, .inl Ms)), (qy3, .inl (cI, 40, .inl Mf)), (qy4, .inl (cI, 40, .inl Ml)), (qy5, .inl (cI, 20, .inl Ht)), (qy6, .inl (cI, 20, .inl Hu)), (qy7, .inl (cL, 40, .inr (.inl Tp)))] ∧ va_S A s.heap H locs ∧ lv_has ls 5 [(0, .ref qy), (1, .int p0), (2, .int p1), (3, .int v3), (4, .int v4)] ∧ (0 ≤ v4.toInt ∧ v4.toInt ≤ nm) ∧ ((v3.toInt = 1 ∧ btw (v4.toInt.toNat) Mt p0.toInt (p0.toInt + p1.toInt)) ∨ (v3.toInt = 0 ∧ ¬ btw (v4.toInt.toNat) Mt p0.toInt (p0.toInt + p1.toInt)))) (fun (v3 : Int32) (v4 : Int32) => (nm - v4.toInt).toNat) (fun v3 v4 ls H locs hI ih5 => ?_) (0 : Int32) (0 : Int32) ls _ _ ⟨hP, hD, hS, lv_sub hl [2, 3, 4, 1, 0] rfl, (show 0 ≤ (0 : Int32).toInt ∧ (0 : Int32).toInt ≤ nm from by omega), (show ((0 : Int32).toInt = 1 ∧ btw ((0 : Int32).toInt.toNat) Mt p0.toInt (p0.toInt + p1.toInt)) ∨ ((0 : Int32).toInt = 0 ∧ ¬ btw ((0 : Int32).toInt.toNat) Mt p0.toInt (p0.toInt + p1.toInt)) from Or.inr ⟨zi0, by rw [zi0]; exact btw_z⟩)⟩
  obtain ⟨hP, hD, hS, hl, i1, i2⟩ := hI
  refine lv_iload hx hb dX4_holdsOther_5 (lv_at hl 4 rfl) ?_
  refine lv_aload_n hx hb dX4_holdsOther_7 rfl (lv_at hl 0 rfl) ?_
  refine va_get (D := G) (ci := 4) (v := .int zM) (C := RX4) (T := TX4) (N := 11) hx hb hts hiX4 hown hK hP 0 rfl rfl 4 (by decide) hf32 (fun _ h9 => h9) rfl dX4_holdsOther_8 ?_
  refine lv_icmp_ge (tgt := 54) hx hb dX4_holdsOther_11 (by decide) (fun c11 => ?_) (fun c11 => ?_)
  · have k11 : (zM.toInt : Int) ≤ v4.toInt := i_le rfl rfl c11
    refine lv_iload_n hx hb dX4_holdsOther_54 rfl (lv_at hl 3 rfl) ?_
    exact W.zret (v := v3) hx hb hr (by rcases i2 with h | h; rw [i_ext (y := 1) (h.1.trans (by decide))]; rfl; rw [i_ext (y := 0) (h.1.trans (by decide))]; rfl) (fun t ht hW => ⟨⟨v3, (), rfl, (by (try dsimp only); exact (by rw [show v4.toInt.toNat = nm by omega] at i2; exact i2)), by rw [ht]; exact hP, hD⟩, hS.F ht⟩) hS.2.2 dX4_holdsOther_55
  · have k11 : (v4.toInt : Int) < zM.toInt := i_nle rfl rfl c11
    refine lv_iload_n hx hb dX4_holdsOther_14 rfl (lv_at hl 3 rfl) ?_
    refine lv_if_ne (tgt := 42) hx hb dX4_holdsOther_15 (by decide) (fun c15 => ?_) (fun c15 => ?_)
    · have k15 : (v3.toInt : Int) ≠ 0 := i_ne rfl (show ((0 : Int32)).toInt = 0 by decide) c15
      refine lv_iconst (v := 1) hx hb dX4_holdsOther_42 (by decide) ?_
      refine lv_goto (tgt := 47) hx hb dX4_holdsOther_43 (by decide) ?_
      refine lv_istore_n (lv' := [(3, .int 1), (0, .ref qy), (1, .int p0), (2, .int p1), (4, .int v4)]) hx hb dX4_holdsOther_47 rfl hl (by decide) rfl (fun ls hl => ?_)
      obtain ⟨x48, ex48⟩ : ∃ y : Int32, y = v4 + 1 := ⟨_, rfl⟩
      have tx48 : x48.toInt = v4.toInt + 1 := by rw [ex48]; exact ti_add rfl (by decide) (by omega) (by omega)
      refine lv_iinc (v := x48) (lv' := [(4, .int x48), (3, .int 1), (0, .ref qy), (1, .int p0), (2, .int p1)]) hx hb dX4_holdsOther_48 hl (k := 4) rfl (by rw [ex48]; rfl) (by decide) rfl (fun ls hl => ?_)
      refine lv_goto (tgt := 5) hx hb dX4_holdsOther_51 (by decide) ?_
      exact ih5 (1 : Int32) x48 ls _ _ ⟨hP, hD, hS, lv_sub hl [2, 3, 4, 1, 0] rfl, (show 0 ≤ x48.toInt ∧ x48.toInt ≤ nm from by omega), (show ((1 : Int32).toInt = 1 ∧ btw (x48.toInt.toNat) Mt p0.toInt (p0.toInt + p1.toInt)) ∨ ((1 : Int32).toInt = 0 ∧ ¬ btw (x48.toInt.toNat) Mt p0.toInt (p0.toInt + p1.toInt)) from by rw [show x48.toInt.toNat = v4.toInt.toNat + 1 by omega, btw_s]; (first | exact Or.inl ⟨by omega, Or.inr (by omega)⟩ | exact Or.inr ⟨by omega, by rintro (h | h); (rcases i2 with i2 | i2; omega; exact i2.2 h); omega⟩ | (rcases i2 with i2 | i2; exact Or.inl ⟨by omega, Or.inl i2.2⟩; omega)))⟩ (show (nm - x48.toInt).toNat < (nm - v4.toInt).toNat from by omega)
    · have k15 : (v3.toInt : Int) = 0 := i_eq rfl (show ((0 : Int32)).toInt = 0 by decide) c15
      refine lv_aload_n hx hb dX4_holdsOther_18 rfl (lv_at hl 0 rfl) ?_
      refine va_get (D := G) (ci := 4) (v := .ref qy1) (C := RX4) (T := TX4) (N := 11) hx hb hts hiX4 hown hK hP 0 rfl rfl 0 (by decide) hf7 (fun _ h9 => h9) rfl dX4_holdsOther_19 ?_
      refine lv_iload hx hb dX4_holdsOther_22 (lv_at hl 4 rfl) ?_
      refine va_iald hx hb hK hP 1 0 rfl rfl (vi_in rfl (by omega) (by omega)) dX4_holdsOther_24 ?_
      refine lv_topi (fun x24 ex24 => ?_)
      have ex24 : x24 = Mt v4.toInt.toNat := by rw [ex24]; exact congrArg _ (cl_nat rfl (by omega))
      have tx24 : x24.toInt = (Mt v4.toInt.toNat).toInt := by rw [ex24]
      have hrg_x24 := hrg v4.toInt.toNat (by omega)
      refine lv_iload_n hx hb dX4_holdsOther_25 rfl (lv_at hl 1 rfl) ?_
      refine lv_icmp_le (tgt := 46) hx hb dX4_holdsOther_26 (by decide) (fun c26 => ?_) (fun c26 => ?_)
      · have k26 : (x24.toInt : Int) ≤ p0.toInt := i_le rfl rfl c26
        refine lv_iconst (v := 0) hx hb dX4_holdsOther_46 (by decide) ?_
        refine lv_istore_n (lv' := [(3, .int 0), (0, .ref qy), (1, .int p0), (2, .int p1), (4, .int v4)]) hx hb dX4_holdsOther_47 rfl hl (by decide) rfl (fun ls hl => ?_)
        obtain ⟨x48_2, ex48_2⟩ : ∃ y : Int32, y = v4 + 1 := ⟨_, rfl⟩
        have tx48_2 : x48_2.toInt = v4.toInt + 1 := by rw [ex48_2]; exact ti_add rfl (by decide) (by omega) (by omega)
        refine lv_iinc (v := x48_2) (lv' := [(4, .int x48_2), (3, .int 0), (0, .ref qy), (1, .int p0), (2, .int p1)]) hx hb dX4_holdsOther_48 hl (k := 4) rfl (by rw [ex48_2]; rfl) (by decide) rfl (fun ls hl => ?_)
        refine lv_goto (tgt := 5) hx hb dX4_holdsOther_51 (by decide) ?_
        exact ih5 (0 : Int32) x48_2 ls _ _ ⟨hP, hD, hS, lv_sub hl [2, 3, 4, 1, 0] rfl, (show 0 ≤ x48_2.toInt ∧ x48_2.toInt ≤ nm from by omega), (show ((0 : Int32).toInt = 1 ∧ btw (x48_2.toInt.toNat) Mt p0.toInt (p0.toInt + p1.toInt)) ∨ ((0 : Int32).toInt = 0 ∧ ¬ btw (x48_2.toInt.toNat) Mt p0.toInt (p0.toInt + p1.toInt)) from by rw [show x48_2.toInt.toNat = v4.toInt.toNat + 1 by omega, btw_s]; (first | exact Or.inl ⟨by omega, Or.inr (by omega)⟩ | exact Or.inr ⟨by omega, by rintro (h | h); (rcases i2 with i2 | i2; omega; exact i2.2 h); omega⟩ | (rcases i2 with i2 | i2; exact Or.inl ⟨by omega, Or.inl i2.2⟩; omega)))⟩ (show (nm - x48_2.toInt).toNat < (nm - v4.toInt).toNat from by omega)
      · have k26 : (p0.toInt : Int) < x24.toInt := i_nle rfl rfl c26
        refine lv_aload_n hx hb dX4_holdsOther_29 rfl (lv_at hl 0 rfl) ?_
        refine va_get (D := G) (ci := 4) (v := .ref qy1) (C := RX4) (T := TX4) (N := 11) hx hb hts hiX4 hown hK hP 0 rfl rfl 0 (by decide) hf7 (fun _ h9 => h9) rfl dX4_holdsOther_30 ?_
        refine lv_iload hx hb dX4_holdsOther_33 (lv_at hl 4 rfl) ?_
        refine va_iald hx hb hK hP 1 0 rfl rfl (vi_in rfl (by omega) (by omega)) dX4_holdsOther_35 ?_
        refine lv_topi (fun x35 ex35 => ?_)
        have ex35 : x35 = Mt v4.toInt.toNat := by rw [ex35]; exact congrArg _ (cl_nat rfl (by omega))
        have tx35 : x35.toInt = (Mt v4.toInt.toNat).toInt := by rw [ex35]
        have hrg_x35 := hrg v4.toInt.toNat (by omega)
        refine lv_iload_n hx hb dX4_holdsOther_36 rfl (lv_at hl 1 rfl) ?_
        refine lv_iload_n hx hb dX4_holdsOther_37 rfl (lv_at hl 2 rfl) ?_
        refine lv_iadd hx hb dX4_holdsOther_38 ?_
        refine lv_topi (fun x38 ex38 => ?_)
        have tx38 : x38.toInt = p0.toInt + p1.toInt := by rw [ex38]; exact ti_add rfl rfl (by omega) (by omega)
        refine lv_icmp_ge (tgt := 46) hx hb dX4_holdsOther_39 (by decide) (fun c39 => ?_) (fun c39 => ?_)
        · have k39 : (x38.toInt : Int) ≤ x35.toInt := i_le rfl rfl c39
          refine lv_iconst (v := 0) hx hb dX4_holdsOther_46 (by decide) ?_
          refine lv_istore_n (lv' := [(3, .int 0), (0, .ref qy), (1, .int p0), (2, .int p1), (4, .int v4)]) hx hb dX4_holdsOther_47 rfl hl (by decide) rfl (fun ls hl => ?_)
          obtain ⟨x48_3, ex48_3⟩ : ∃ y : Int32, y = v4 + 1 := ⟨_, rfl⟩
          have tx48_3 : x48_3.toInt = v4.toInt + 1 := by rw [ex48_3]; exact ti_add rfl (by decide) (by omega) (by omega)
          refine lv_iinc (v := x48_3) (lv' := [(4, .int x48_3), (3, .int 0), (0, .ref qy), (1, .int p0), (2, .int p1)]) hx hb dX4_holdsOther_48 hl (k := 4) rfl (by rw [ex48_3]; rfl) (by decide) rfl (fun ls hl => ?_)
          refine lv_goto (tgt := 5) hx hb dX4_holdsOther_51 (by decide) ?_
          exact ih5 (0 : Int32) x48_3 ls _ _ ⟨hP, hD, hS, lv_sub hl [2, 3, 4, 1, 0] rfl, (show 0 ≤ x48_3.toInt ∧ x48_3.toInt ≤ nm from by omega), (show ((0 : Int32).toInt = 1 ∧ btw (x48_3.toInt.toNat) Mt p0.toInt (p0.toInt + p1.toInt)) ∨ ((0 : Int32).toInt = 0 ∧ ¬ btw (x48_3.toInt.toNat) Mt p0.toInt (p0.toInt + p1.toInt)) from by rw [show x48_3.toInt.toNat = v4.toInt.toNat + 1 by omega, btw_s]; (first | exact Or.inl ⟨by omega, Or.inr (by omega)⟩ | exact Or.inr ⟨by omega, by rintro (h | h); (rcases i2 with i2 | i2; omega; exact i2.2 h); omega⟩ | (rcases i2 with i2 | i2; exact Or.inl ⟨by omega, Or.inl i2.2⟩; omega)))⟩ (show (nm - x48_3.toInt).toNat < (nm - v4.toInt).toNat from by omega)
        · have k39 : (x35.toInt : Int) < x38.toInt := i_nle rfl rfl c39
          refine lv_iconst (v := 1) hx hb dX4_holdsOther_42 (by decide) ?_
          refine lv_goto (tgt := 47) hx hb dX4_holdsOther_43 (by decide) ?_
          refine lv_istore_n (lv' := [(3, .int 1), (0, .ref qy), (1, .int p0), (2, .int p1), (4, .int v4)]) hx hb dX4_holdsOther_47 rfl hl (by decide) rfl (fun ls hl => ?_)
          obtain ⟨x48_4, ex48_4⟩ : ∃ y : Int32, y = v4 + 1 := ⟨_, rfl⟩
          have tx48_4 : x48_4.toInt = v4.toInt + 1 := by rw [ex48_4]; exact ti_add rfl (by decide) (by omega) (by omega)
          refine lv_iinc (v := x48_4) (lv' := [(4, .int x48_4), (3, .int 1), (0, .ref qy), (1, .int p0), (2, .int p1)]) hx hb dX4_holdsOther_48 hl (k := 4) rfl (by rw [ex48_4]; rfl) (by decide) rfl (fun ls hl => ?_)
          refine lv_goto (tgt := 5) hx hb dX4_holdsOther_51 (by decide) ?_
          exact ih5 (1 : Int32) x48_4 ls _ _ ⟨hP, hD, hS, lv_sub hl [2, 3, 4, 1, 0] rfl, (show 0 ≤ x48_4.toInt ∧ x48_4.toInt ≤ nm from by omega), (show ((1 : Int32).toInt = 1 ∧ btw (x48_4.toInt.toNat) Mt p0.toInt (p0.toInt + p1.toInt)) ∨ ((1 : Int32).toInt = 0 ∧ ¬ btw (x48_4.toInt.toNat) Mt p0.toInt (p0.toInt + p1.toInt)) from by rw [show x48_4.toInt.toNat = v4.toInt.toNat + 1 by omega, btw_s]; (first | exact Or.inl ⟨by omega, Or.inr (by omega)⟩ | exact Or.inr ⟨by omega, by rintro (h | h); (rcases i2 with i2 | i2; omega; exact i2.2 h); omega⟩ | (rcases i2 with i2 | i2; exact Or.inl ⟨by omega, Or.inl i2.2⟩; omega)))⟩ (show (nm - x48_4.toInt).toNat < (nm - v4.toInt).toNat from by omega)

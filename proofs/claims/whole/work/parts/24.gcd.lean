set_option maxHeartbeats 1000000 in
set_option maxRecDepth 100000 in
theorem ct_X3_commonDivisor (l : Launch) (G : va_G) (cI cL : ClassId) (sz : Nat) (p0 : Int64) (p1 : Int64) (hp0 : 0 ≤ p0.toInt ∧ p0.toInt ≤ 1000000000000000000) (hp1 : 1 ≤ p1.toInt ∧ p1.toInt ≤ 1000000000000000000) : Met l yX3_commonDivisor wsX3_commonDivisor ({ frames := 1, cells := 0, slots := 0, locals := 23 }) (va_Pc [.long p0, .long p1] (pre0 G cI cL ([] : va_W) sz)) (va_Ql (fun (r : Int64) (u : Unit) => r.toInt = (Nat.gcd p0.toInt.toNat p1.toInt.toNat : Nat)) (fun (u : Unit) t => va_P G vwCl ([] : va_W) t.heap ∧ va_D (va_A ([] : va_W) sz) ([] : va_W)) (va_A ([] : va_W) sz)) 0 0 (va_A ([] : va_W) sz) := by
  refine Met.ofW (cc := cX3_commonDivisor) (maxL := 11) (ret := (some .long)) (by decide) rfl ?_
  intro p e s m args below meth c s₁ B hml hv
  obtain ⟨rfl, hsz, hP, hK, hD0, hN⟩ := hv
  have hx := B.exec
  have hb := B.bytes
  have hr := B.returns
  have hts := atoms_spec (ws := wsX3_commonDivisor) B.pre
  have hown : s.vm.findClass RX3 = some m.cls := findClass_of_methodNamed B.named
  have hlocks := B.notSynchronized
  subst hsz
  have hD := hD0.self (sz := s.heap.size)
  generalize hAe : va_A ([] : va_W) s.heap.size = A at hD ⊢
  have hA : ∀ q : Nat, s.heap.size ≤ q → A q := fun q h => by rw [← hAe]; exact Or.inr h
  have hP : va_P G vwCl ([] : va_W) s.heap := hP
  have hl := lv_entry ([.long p0, .long p1]) (n := 11) (Nat.le_of_ble_eq_true rfl)
  rw [lg_entry_eq]
  generalize (lg_sl ([.long p0, .long p1]) ++ List.replicate (11 - (lg_sl ([.long p0, .long p1])).length) Slot.unset).toArray = ls at hl ⊢
  have hl : lv_has ls 11 [(0, .long p0), (2, .long p1)] := hl
  have zi0 : ((0 : Int32)).toInt = 0 := by decide
  have zi1 : ((1 : Int32)).toInt = 1 := by decide
  have zi200 : ((200 : Int32)).toInt = 200 := by decide
  have zl0 : ((0 : Int64)).toInt = 0 := by decide
  have zl1 : ((1 : Int64)).toInt = 1 := by decide
  refine w_h (A := A) hP (fun H locs hP hS => ?_)
  refine lv_lload_n hx hb dX3_commonDivisor_0 rfl (lv_at hl 0 rfl) ?_
  refine lv_lstore (lv' := [(4, .long p0), (0, .long p0), (2, .long p1)]) hx hb dX3_commonDivisor_1  hl (by decide) rfl (fun ls hl => ?_)
  refine lv_lload_n hx hb dX3_commonDivisor_3 rfl (lv_at hl 2 rfl) ?_
  refine lv_lstore (lv' := [(6, .long p1), (4, .long p0), (0, .long p0), (2, .long p1)]) hx hb dX3_commonDivisor_4  hl (by decide) rfl (fun ls hl => ?_)
  refine lv_iconst (v := 0) hx hb dX3_commonDivisor_6 (by decide) ?_
  refine lv_istore (lv' := [(8, .int 0), (6, .long p1), (4, .long p0), (0, .long p0), (2, .long p1)]) hx hb dX3_commonDivisor_7  hl (by decide) rfl (fun ls hl => ?_)
  refine W_loop3 (fun (x4 : Int64) (x6 : Int64) (x8 : Int32) ls H locs => va_P G vwCl ([] : va_W) H ∧ va_D A ([] : va_W) ∧ va_S A s.heap H locs ∧ lv_has ls 11 [(0, .long p0), (2, .long p1), (4, .long x4), (6, .long x6), (8, .int x8)] ∧ (0 ≤ x8.toInt ∧ x8.toInt ≤ 200) ∧ (0 ≤ x4.toInt ∧ x4.toInt ≤ 1000000000000000000) ∧ (0 ≤ x6.toInt ∧ x6.toInt ≤ 1000000000000000000) ∧ (x8.toInt.toNat = 0 ∨ (x6.toInt < x4.toInt ∧ x6.toInt * x4.toInt * 2 ^ (x8.toInt.toNat - 1) ≤ 2 ^ 180)) ∧ (Nat.gcd x4.toInt.toNat x6.toInt.toNat = Nat.gcd p0.toInt.toNat p1.toInt.toNat)) (fun (x4 : Int64) (x6 : Int64) (x8 : Int32) => (200 - x8.toInt).toNat) (fun x4 x6 x8 ls H locs hI ih9 => ?_) p0 p1 (0 : Int32) ls _ _ ⟨hP, hD, hS, lv_sub hl [3, 4, 2, 1, 0] rfl, (show 0 ≤ (0 : Int32).toInt ∧ (0 : Int32).toInt ≤ 200 from by omega), (show 0 ≤ p0.toInt ∧ p0.toInt ≤ 1000000000000000000 from by omega), (show 0 ≤ p1.toInt ∧ p1.toInt ≤ 1000000000000000000 from by omega), (show (0 : Int32).toInt.toNat = 0 ∨ (p1.toInt < p0.toInt ∧ p1.toInt * p0.toInt * 2 ^ ((0 : Int32).toInt.toNat - 1) ≤ 2 ^ 180) from Or.inl (by omega)), (show Nat.gcd p0.toInt.toNat p1.toInt.toNat = Nat.gcd p0.toInt.toNat p1.toInt.toNat from rfl)⟩
  obtain ⟨hP, hD, hS, hl, i1, i2, i3, i8, i9⟩ := hI
  refine lv_iload hx hb dX3_commonDivisor_9 (lv_at hl 4 rfl) ?_
  refine lv_sipush (v := 200) hx hb dX3_commonDivisor_11 (by decide) ?_
  refine lv_icmp_ge (tgt := 45) hx hb dX3_commonDivisor_14 (by decide) (fun c14 => ?_) (fun c14 => ?_)
  · have k14 : (200 : Int) ≤ x8.toInt := i_le (show ((200 : Int32)).toInt = 200 by decide) rfl c14
    have z6 := eu_end i8 (by omega) i3.1
    have fr : x4.toInt = (Nat.gcd p0.toInt.toNat p1.toInt.toNat : Nat) := by rw [← i9, show x6.toInt.toNat = 0 by omega, Nat.gcd_zero_right]; omega
    have gp : 0 < Nat.gcd p0.toInt.toNat p1.toInt.toNat := Nat.gcd_pos_of_pos_right _ (by omega)
    refine lv_lload hx hb dX3_commonDivisor_45 (lv_at hl 2 rfl) ?_
    refine lv_lconst (v := 1) hx hb dX3_commonDivisor_47 (by decide) ?_
    refine va_mmax_long hx hb (by rw [hml]; exact hl.1.symm) hown (hts (.methodLink RX3 124 Lib.MathLoose.max_long.x) (by decide +kernel)) (hts (.static Lib.MathLoose.max_long.x) (by decide +kernel)) (hts (.initialized "java/lang/Math") (by decide +kernel)) (hts (.code Lib.MathLoose.max_long.x Lib.MathLoose.max_long.code 4 (some .long)) (by decide +kernel)) (Nat.le_of_ble_eq_true rfl) (Nat.le_of_ble_eq_true rfl) (Nat.zero_le _) (Nat.zero_le _) dX3_commonDivisor_48 ?_
    refine lv_topl (fun x48 ex48 => ?_)
    have tx48 : x48.toInt = max x4.toInt 1 := by rw [ex48]; exact tl_max rfl (show ((1 : Int64)).toInt = 1 by decide)
    exact W.lret (v := x48) hx hb hr (fun t ht hW => ⟨⟨x48, (), rfl, (by (try dsimp only); exact (by omega)), by rw [ht]; exact hP, hD⟩, hS.F ht⟩) hS.2.2 dX3_commonDivisor_51
  · have k14 : (x8.toInt : Int) < 200 := i_nle (show ((200 : Int32)).toInt = 200 by decide) rfl c14
    refine lv_lload hx hb dX3_commonDivisor_17 (lv_at hl 3 rfl) ?_
    refine lv_lconst (v := 0) hx hb dX3_commonDivisor_19 (by decide) ?_
    refine W.lcmp hx hb dX3_commonDivisor_20 ?_
    refine lv_if_le (tgt := 45) hx hb dX3_commonDivisor_21 (by decide) (fun c21 => ?_) (fun c21 => ?_)
    · have k21 : (x6.toInt : Int) ≤ 0 := l_le rfl (show ((0 : Int64)).toInt = 0 by decide) ((lg_cmp_le _ _).mp c21)
      have fr : x4.toInt = (Nat.gcd p0.toInt.toNat p1.toInt.toNat : Nat) := by rw [← i9, show x6.toInt.toNat = 0 by omega, Nat.gcd_zero_right]; omega
      have gp : 0 < Nat.gcd p0.toInt.toNat p1.toInt.toNat := Nat.gcd_pos_of_pos_right _ (by omega)
      refine lv_lload hx hb dX3_commonDivisor_45 (lv_at hl 2 rfl) ?_
      refine lv_lconst (v := 1) hx hb dX3_commonDivisor_47 (by decide) ?_
      refine va_mmax_long hx hb (by rw [hml]; exact hl.1.symm) hown (hts (.methodLink RX3 124 Lib.MathLoose.max_long.x) (by decide +kernel)) (hts (.static Lib.MathLoose.max_long.x) (by decide +kernel)) (hts (.initialized "java/lang/Math") (by decide +kernel)) (hts (.code Lib.MathLoose.max_long.x Lib.MathLoose.max_long.code 4 (some .long)) (by decide +kernel)) (Nat.le_of_ble_eq_true rfl) (Nat.le_of_ble_eq_true rfl) (Nat.zero_le _) (Nat.zero_le _) dX3_commonDivisor_48 ?_
      refine lv_topl (fun x48_2 ex48_2 => ?_)
      have tx48_2 : x48_2.toInt = max x4.toInt 1 := by rw [ex48_2]; exact tl_max rfl (show ((1 : Int64)).toInt = 1 by decide)
      exact W.lret (v := x48_2) hx hb hr (fun t ht hW => ⟨⟨x48_2, (), rfl, (by (try dsimp only); exact (by omega)), by rw [ht]; exact hP, hD⟩, hS.F ht⟩) hS.2.2 dX3_commonDivisor_51
    · have k21 : (0 : Int) < x6.toInt := l_nle rfl (show ((0 : Int64)).toInt = 0 by decide) (fun h9 => c21 ((lg_cmp_le _ _).mpr h9))
      refine lv_lload hx hb dX3_commonDivisor_24 (lv_at hl 2 rfl) ?_
      refine lv_lload hx hb dX3_commonDivisor_26 (lv_at hl 3 rfl) ?_
      refine lv_lrem hx hb dX3_commonDivisor_28 (l_ne0 rfl (by omega)) ?_
      refine lv_topl (fun x28 ex28 => ?_)
      have tx28 : x28.toInt = x4.toInt % x6.toInt := by rw [ex28]; exact tl_rem rfl rfl (by omega) (by omega)
      refine lv_lstore (lv' := [(9, .long x28), (0, .long p0), (2, .long p1), (4, .long x4), (6, .long x6), (8, .int x8)]) hx hb dX3_commonDivisor_29  hl (by decide) rfl (fun ls hl => ?_)
      refine lv_lload hx hb dX3_commonDivisor_31 (lv_at hl 4 rfl) ?_
      refine lv_lstore (lv' := [(4, .long x6), (9, .long x28), (0, .long p0), (2, .long p1), (6, .long x6), (8, .int x8)]) hx hb dX3_commonDivisor_33  hl (by decide) rfl (fun ls hl => ?_)
      refine lv_lload hx hb dX3_commonDivisor_35 (lv_at hl 1 rfl) ?_
      refine lv_lstore (lv' := [(6, .long x28), (4, .long x6), (9, .long x28), (0, .long p0), (2, .long p1), (8, .int x8)]) hx hb dX3_commonDivisor_37  hl (by decide) rfl (fun ls hl => ?_)
      obtain ⟨x39, ex39⟩ : ∃ y : Int32, y = x8 + 1 := ⟨_, rfl⟩
      have tx39 : x39.toInt = x8.toInt + 1 := by rw [ex39]; exact ti_add rfl (by decide) (by omega) (by omega)
      refine lv_iinc (v := x39) (lv' := [(8, .int x39), (6, .long x28), (4, .long x6), (9, .long x28), (0, .long p0), (2, .long p1)]) hx hb dX3_commonDivisor_39 hl (k := 5) rfl (by rw [ex39]; rfl) (by decide) rfl (fun ls hl => ?_)
      refine lv_goto (tgt := 9) hx hb dX3_commonDivisor_42 (by decide) ?_
      have ev := eu_inv (up := x4.toInt) i8 (by omega) (by omega)
      have rm : 0 ≤ x28.toInt ∧ x28.toInt < x6.toInt := by rw [tx28]; exact ⟨Int.emod_nonneg _ (by omega), Int.emod_lt_of_pos _ (by omega)⟩
      exact ih9 x6 x28 x39 ls _ _ ⟨hP, hD, hS, lv_sub hl [4, 5, 2, 1, 0] rfl, (show 0 ≤ x39.toInt ∧ x39.toInt ≤ 200 from by omega), (show 0 ≤ x6.toInt ∧ x6.toInt ≤ 1000000000000000000 from by omega), (show 0 ≤ x28.toInt ∧ x28.toInt ≤ 1000000000000000000 from by omega), (show x39.toInt.toNat = 0 ∨ (x28.toInt < x6.toInt ∧ x28.toInt * x6.toInt * 2 ^ (x39.toInt.toNat - 1) ≤ 2 ^ 180) from Or.inr (by rw [tx28, show x39.toInt.toNat = x8.toInt.toNat + 1 by omega]; exact ev)), (show Nat.gcd x6.toInt.toNat x28.toInt.toNat = Nat.gcd p0.toInt.toNat p1.toInt.toNat from by rw [← i9, tx28, gcd_st (by omega) (by omega)])⟩ (show (200 - x39.toInt).toNat < (200 - x8.toInt).toNat from by omega)
set_option maxHeartbeats 1000000 in
set_option maxRecDepth 100000 in
theorem ct_X4_common (l : Launch) (G : va_G) (cI cL : ClassId) (sz : Nat) (p0 : Int64) (p1 : Int64) (hp0 : 0 ≤ p0.toInt ∧ p0.toInt ≤ 1000000000000000000) (hp1 : 1 ≤ p1.toInt ∧ p1.toInt ≤ 1000000000000000000) : Met l yX4_common wsX4_common ({ frames := 0, cells := 0, slots := 0, locals := 0 }) (va_Pc [.long p0, .long p1] (pre0 G cI cL ([] : va_W) sz)) (va_Ql (fun (r : Int64) (u : Unit) => r.toInt = (Nat.gcd p0.toInt.toNat p1.toInt.toNat : Nat)) (fun (u : Unit) t => va_P G vwCl ([] : va_W) t.heap ∧ va_D (va_A ([] : va_W) sz) ([] : va_W)) (va_A ([] : va_W) sz)) 0 0 (va_A ([] : va_W) sz) := by
  refine Met.ofW (cc := cX4_common) (maxL := 10) (ret := (some .long)) (by decide) rfl ?_
  intro p e s m args below meth c s₁ B hml hv
  obtain ⟨rfl, hsz, hP, hK, hD0, hN⟩ := hv
  have hx := B.exec
  have hb := B.bytes
  have hr := B.returns
  have hts := atoms_spec (ws := wsX4_common) B.pre
  have hown : s.vm.findClass RX4 = some m.cls := findClass_of_methodNamed B.named
  have hlocks := B.notSynchronized
  subst hsz
  have hD := hD0.self (sz := s.heap.size)
  generalize hAe : va_A ([] : va_W) s.heap.size = A at hD ⊢
  have hA : ∀ q : Nat, s.heap.size ≤ q → A q := fun q h => by rw [← hAe]; exact Or.inr h
  have hP : va_P G vwCl ([] : va_W) s.heap := hP
  have hl := lv_entry ([.long p0, .long p1]) (n := 10) (Nat.le_of_ble_eq_true rfl)
  rw [lg_entry_eq]
  generalize (lg_sl ([.long p0, .long p1]) ++ List.replicate (10 - (lg_sl ([.long p0, .long p1])).length) Slot.unset).toArray = ls at hl ⊢
  have hl : lv_has ls 10 [(0, .long p0), (2, .long p1)] := hl
  have zl0 : ((0 : Int64)).toInt = 0 := by decide
  refine w_h (A := A) hP (fun H locs hP hS => ?_)
  refine lv_lload_n hx hb dX4_common_0 rfl (lv_at hl 0 rfl) ?_
  refine lv_lconst (v := 0) hx hb dX4_common_1 (by decide) ?_
  refine W.lcmp hx hb dX4_common_2 ?_
  refine lv_if_ge (tgt := 11) hx hb dX4_common_3 (by decide) (fun c3 => ?_) (fun c3 => ?_)
  · have k3 : (0 : Int) ≤ p0.toInt := l_le (show ((0 : Int64)).toInt = 0 by decide) rfl ((lg_cmp_ge _ _).mp c3)
    refine lv_lload_n hx hb dX4_common_11 rfl (lv_at hl 0 rfl) ?_
    refine lv_lstore (lv' := [(4, .long p0), (0, .long p0), (2, .long p1)]) hx hb dX4_common_12  hl (by decide) rfl (fun ls hl => ?_)
    refine lv_lload_n hx hb dX4_common_14 rfl (lv_at hl 2 rfl) ?_
    refine lv_lstore (lv' := [(6, .long p1), (4, .long p0), (0, .long p0), (2, .long p1)]) hx hb dX4_common_15  hl (by decide) rfl (fun ls hl => ?_)
    refine W_loop2 (fun (x4 : Int64) (x6 : Int64) ls H locs => va_P G vwCl ([] : va_W) H ∧ va_D A ([] : va_W) ∧ va_S A s.heap H locs ∧ lv_has ls 10 [(0, .long p0), (2, .long p1), (4, .long x4), (6, .long x6)] ∧ (0 ≤ x4.toInt ∧ x4.toInt ≤ 1000000000000000000) ∧ (0 ≤ x6.toInt ∧ x6.toInt ≤ 1000000000000000000) ∧ (Nat.gcd x4.toInt.toNat x6.toInt.toNat = Nat.gcd p0.toInt.toNat p1.toInt.toNat)) (fun (x4 : Int64) (x6 : Int64) => x6.toInt.toNat) (fun x4 x6 ls H locs hI ih17 => ?_) p0 p1 ls _ _ ⟨hP, hD, hS, lv_sub hl [2, 3, 1, 0] rfl, (show 0 ≤ p0.toInt ∧ p0.toInt ≤ 1000000000000000000 from by omega), (show 0 ≤ p1.toInt ∧ p1.toInt ≤ 1000000000000000000 from by omega), (show Nat.gcd p0.toInt.toNat p1.toInt.toNat = Nat.gcd p0.toInt.toNat p1.toInt.toNat from rfl)⟩
    obtain ⟨hP, hD, hS, hl, i2, i3, i9⟩ := hI
    refine lv_lload hx hb dX4_common_17 (lv_at hl 3 rfl) ?_
    refine lv_lconst (v := 0) hx hb dX4_common_19 (by decide) ?_
    refine W.lcmp hx hb dX4_common_20 ?_
    refine lv_if_le (tgt := 42) hx hb dX4_common_21 (by decide) (fun c21 => ?_) (fun c21 => ?_)
    · have k21 : (x6.toInt : Int) ≤ 0 := l_le rfl (show ((0 : Int64)).toInt = 0 by decide) ((lg_cmp_le _ _).mp c21)
      have fr : x4.toInt = (Nat.gcd p0.toInt.toNat p1.toInt.toNat : Nat) := by rw [← i9, show x6.toInt.toNat = 0 by omega, Nat.gcd_zero_right]; omega
      refine lv_lload hx hb dX4_common_42 (lv_at hl 2 rfl) ?_
      exact W.lret (v := x4) hx hb hr (fun t ht hW => ⟨⟨x4, (), rfl, (by (try dsimp only); exact fr), by rw [ht]; exact hP, hD⟩, hS.F ht⟩) hS.2.2 dX4_common_44
    · have k21 : (0 : Int) < x6.toInt := l_nle rfl (show ((0 : Int64)).toInt = 0 by decide) (fun h9 => c21 ((lg_cmp_le _ _).mpr h9))
      refine lv_lload hx hb dX4_common_24 (lv_at hl 2 rfl) ?_
      refine lv_lload hx hb dX4_common_26 (lv_at hl 3 rfl) ?_
      refine lv_lrem hx hb dX4_common_28 (l_ne0 rfl (by omega)) ?_
      refine lv_topl (fun x28 ex28 => ?_)
      have tx28 : x28.toInt = x4.toInt % x6.toInt := by rw [ex28]; exact tl_rem rfl rfl (by omega) (by omega)
      refine lv_lstore (lv' := [(8, .long x28), (0, .long p0), (2, .long p1), (4, .long x4), (6, .long x6)]) hx hb dX4_common_29  hl (by decide) rfl (fun ls hl => ?_)
      refine lv_lload hx hb dX4_common_31 (lv_at hl 4 rfl) ?_
      refine lv_lstore (lv' := [(4, .long x6), (8, .long x28), (0, .long p0), (2, .long p1), (6, .long x6)]) hx hb dX4_common_33  hl (by decide) rfl (fun ls hl => ?_)
      refine lv_lload hx hb dX4_common_35 (lv_at hl 1 rfl) ?_
      refine lv_lstore (lv' := [(6, .long x28), (4, .long x6), (8, .long x28), (0, .long p0), (2, .long p1)]) hx hb dX4_common_37  hl (by decide) rfl (fun ls hl => ?_)
      refine lv_goto (tgt := 17) hx hb dX4_common_39 (by decide) ?_
      have rm : 0 ≤ x28.toInt ∧ x28.toInt < x6.toInt := by rw [tx28]; exact ⟨Int.emod_nonneg _ (by omega), Int.emod_lt_of_pos _ (by omega)⟩
      exact ih17 x6 x28 ls _ _ ⟨hP, hD, hS, lv_sub hl [3, 4, 1, 0] rfl, (show 0 ≤ x6.toInt ∧ x6.toInt ≤ 1000000000000000000 from by omega), (show 0 ≤ x28.toInt ∧ x28.toInt ≤ 1000000000000000000 from by omega), (show Nat.gcd x6.toInt.toNat x28.toInt.toNat = Nat.gcd p0.toInt.toNat p1.toInt.toNat from by rw [← i9, tx28, gcd_st (by omega) (by omega)])⟩ (show x28.toInt.toNat < x6.toInt.toNat from by omega)
  · have k3 : (p0.toInt : Int) < 0 := l_nle (show ((0 : Int64)).toInt = 0 by decide) rfl (fun h9 => c3 ((lg_cmp_ge _ _).mpr h9))
    exact absurd k3 (by omega)

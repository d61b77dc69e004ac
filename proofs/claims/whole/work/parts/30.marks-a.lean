set_option maxHeartbeats 1000000 in
set_option maxRecDepth 100000 in
theorem ct_X1_placeOf (l : Launch) (G : va_G) (cI cL : ClassId) (sz : Nat) (qm : Nat) (qm1 : Nat) (qm2 : Nat) (qm3 : Nat) (qm4 : Nat) (qm5 : Nat) (zm : Int32) (kt : Nat → Int32) (ks : Nat → Int32) (kf : Nat → Int32) (kl : Nat → Int32) (ku : Nat → Int64) (p0 : Int32) (nm : Nat) (hnm : zm.toInt = nm) (hOm : okM nm kt ks kf kl) (hSr : srt nm kt) : Met l yX1_placeOf wsX1_placeOf ({ frames := 0, cells := 0, slots := 0, locals := 0 }) (va_Pc [.ref qm, .int p0] (pre0 G cI cL [(qm, .inr (1, [.ref qm1, .ref qm2, .ref qm3, .ref qm4, .ref qm5, .int zm])), (qm1, .inl (cI, 40, .inl kt)), (qm2, .inl (cI, 40, .inl ks)), (qm3, .inl (cI, 40, .inl kf)), (qm4, .inl (cI, 40, .inl kl)), (qm5, .inl (cL, 40, .inr (.inl ku)))] sz)) (va_Qi (fun (r : Int32) (u : Unit) => r.toInt = bi kt p0.toInt nm) (fun (u : Unit) t => va_P G vwCl [(qm, .inr (1, [.ref qm1, .ref qm2, .ref qm3, .ref qm4, .ref qm5, .int zm])), (qm1, .inl (cI, 40, .inl kt)), (qm2, .inl (cI, 40, .inl ks)), (qm3, .inl (cI, 40, .inl kf)), (qm4, .inl (cI, 40, .inl kl)), (qm5, .inl (cL, 40, .inr (.inl ku)))] t.heap ∧ va_D (va_A [(qm, .inr (1, [.ref qm1, .ref qm2, .ref qm3, .ref qm4, .ref qm5, .int zm])), (qm1, .inl (cI, 40, .inl kt)), (qm2, .inl (cI, 40, .inl ks)), (qm3, .inl (cI, 40, .inl kf)), (qm4, .inl (cI, 40, .inl kl)), (qm5, .inl (cL, 40, .inr (.inl ku)))] sz) [(qm, .inr (1, [.ref qm1, .ref qm2, .ref qm3, .ref qm4, .ref qm5, .int zm])), (qm1, .inl (cI, 40, .inl kt)), (qm2, .inl (cI, 40, .inl ks)), (qm3, .inl (cI, 40, .inl kf)), (qm4, .inl (cI, 40, .inl kl)), (qm5, .inl (cL, 40, .inr (.inl ku)))]) (va_A [(qm, .inr (1, [.ref qm1, .ref qm2, .ref qm3, .ref qm4, .ref qm5, .int zm])), (qm1, .inl (cI, 40, .inl kt)), (qm2, .inl (cI, 40, .inl ks)), (qm3, .inl (cI, 40, .inl kf)), (qm4, .inl (cI, 40, .inl kl)), (qm5, .inl (cL, 40, .inr (.inl ku)))] sz)) 0 0 (va_A [(qm, .inr (1, [.ref qm1, .ref qm2, .ref qm3, .ref qm4, .ref qm5, .int zm])), (qm1, .inl (cI, 40, .inl kt)), (qm2, .inl (cI, 40, .inl ks)), (qm3, .inl (cI, 40, .inl kf)), (qm4, .inl (cI, 40, .inl kl)), (qm5, .inl (cL, 40, .inr (.inl ku)))] sz) := by
  refine Met.ofW (cc := cX1_placeOf) (maxL := 3) (ret := (some .int)) (by decide) rfl ?_
  intro p e s m args below meth c s₁ B hml hv
  obtain ⟨rfl, hsz, hP, hK, hD0, hN⟩ := hv
  have hx := B.exec
  have hb := B.bytes
  have hr := B.returns
  have hts := atoms_spec (ws := wsX1_placeOf) B.pre
  have hown : s.vm.findClass RX1 = some m.cls := findClass_of_methodNamed B.named
  have hlocks := B.notSynchronized
  subst hsz
  have hD := hD0.self (sz := s.heap.size)
  generalize hAe : va_A [(qm, .inr (1, [.ref qm1, .ref qm2, .ref qm3, .ref qm4, .ref qm5, .int zm])), (qm1, .inl (cI, 40, .inl kt)), (qm2, .inl (cI, 40, .inl ks)), (qm3, .inl (cI, 40, .inl kf)), (qm4, .inl (cI, 40, .inl kl)), (qm5, .inl (cL, 40, .inr (.inl ku)))] s.heap.size = A at hD ⊢
  have hA : ∀ q : Nat, s.heap.size ≤ q → A q := fun q h => by rw [← hAe]; exact Or.inr h
  have hP : va_P G vwCl [(qm, .inr (1, [.ref qm1, .ref qm2, .ref qm3, .ref qm4, .ref qm5, .int zm])), (qm1, .inl (cI, 40, .inl kt)), (qm2, .inl (cI, 40, .inl ks)), (qm3, .inl (cI, 40, .inl kf)), (qm4, .inl (cI, 40, .inl kl)), (qm5, .inl (cL, 40, .inr (.inl ku)))] s.heap := hP
  have hl := lv_entry ([.ref qm, .int p0]) (n := 3) (Nat.le_of_ble_eq_true rfl)
  rw [lg_entry_eq]
  generalize (lg_sl ([.ref qm, .int p0]) ++ List.replicate (3 - (lg_sl ([.ref qm, .int p0])).length) Slot.unset).toArray = ls at hl ⊢
  have hl : lv_has ls 3 [(0, .ref qm), (1, .int p0)] := hl
  have hf28 := hts (.fieldLink RX1 28 "TempoMaps$Marks" "size" "I") (by decide +kernel)
  have hf9 := hts (.fieldLink RX1 9 "TempoMaps$Marks" "ticks" "[I") (by decide +kernel)
  have hiX1 : ∀ w ∈ wsX10, w ∈ wsX1_placeOf := by decide +kernel
  have zim1 : ((-1 : Int32)).toInt = -1 := by decide
  have zi1 : ((1 : Int32)).toInt = 1 := by decide
  refine w_h (A := A) hP (fun H locs hP hS => ?_)
  have hn40 := hOm.1
  have hrg := hOm.2.1
  refine lv_aload_n hx hb dX1_placeOf_0 rfl (lv_at hl 0 rfl) ?_
  refine va_get (D := G) (ci := 1) (v := .int zm) (C := RX1) (T := TX1) (N := 6) hx hb hts hiX1 hown hK hP 0 rfl rfl 5 (by decide) hf28 (fun _ h9 => h9) rfl dX1_placeOf_1 ?_
  refine lv_iconst (v := 1) hx hb dX1_placeOf_4 (by decide) ?_
  refine lv_isub hx hb dX1_placeOf_5 ?_
  refine lv_topi (fun x5 ex5 => ?_)
  have tx5 : x5.toInt = zm.toInt - 1 := by rw [ex5]; exact ti_sub rfl (show ((1 : Int32)).toInt = 1 by decide) (by omega) (by omega)
  refine lv_istore_n (lv' := [(2, .int x5), (0, .ref qm), (1, .int p0)]) hx hb dX1_placeOf_6 rfl hl (by decide) rfl (fun ls hl => ?_)
  refine W_loop1 (fun (x2 : Int32) ls H locs => va_P G vwCl [(qm, .inr (1, [.ref qm1, .ref qm2, .ref qm3, .ref qm4, .ref qm5, .int zm])), (qm1, .inl (cI, 40, .inl kt)), (qm2, .inl (cI, 40, .inl ks)), (qm3, .inl (cI, 40, .inl kf)), (qm4, .inl (cI, 40, .inl kl)), (qm5, .inl (cL, 40, .inr (.inl ku)))] H ∧ va_D A [(qm, .inr (1, [.ref qm1, .ref qm2, .ref qm3, .ref qm4, .ref qm5, .int zm])), (qm1, .inl (cI, 40, .inl kt)), (qm2, .inl (cI, 40, .inl ks)), (qm3, .inl (cI, 40, .inl kf)), (qm4, .inl (cI, 40, .inl kl)), (qm5, .inl (cL, 40, .inr (.inl ku)))] ∧ va_S A s.heap H locs ∧ lv_has ls 3 [(0, .ref qm), (1, .int p0), (2, .int x2)] ∧ (-1 ≤ x2.toInt ∧ x2.toInt < nm) ∧ (∀ k : Nat, k < nm → x2.toInt < k → p0.toInt < (kt k).toInt)) (fun (x2 : Int32) => (x2.toInt + 1).toNat) (fun x2 ls H locs hI ih7 => ?_) x5 ls _ _ ⟨hP, hD, hS, lv_sub hl [1, 2, 0] rfl, (show -1 ≤ x5.toInt ∧ x5.toInt < nm from by omega), (show ∀ k : Nat, k < nm → x5.toInt < k → p0.toInt < (kt k).toInt from fun k h1 h2 => by omega)⟩
  obtain ⟨hP, hD, hS, hl, i1, i2⟩ := hI
  refine lv_iload_n hx hb dX1_placeOf_7 rfl (lv_at hl 2 rfl) ?_
  refine lv_if_lt (tgt := 27) hx hb dX1_placeOf_8 (by decide) (fun c8 => ?_) (fun c8 => ?_)
  · have k8 : (x2.toInt : Int) < 0 := i_lt rfl (show ((0 : Int32)).toInt = 0 by decide) c8
    have fr : x2.toInt = bi kt p0.toInt nm := by rw [bi_none (fun k h => i2 k h (by omega))]; omega
    refine lv_iload_n hx hb dX1_placeOf_27 rfl (lv_at hl 2 rfl) ?_
    exact W.iret (v := x2) hx hb hr (fun t ht hW => ⟨⟨x2, (), rfl, (by (try dsimp only); exact (by omega)), by rw [ht]; exact hP, hD⟩, hS.F ht⟩) hS.2.2 dX1_placeOf_28
  · have k8 : (0 : Int) ≤ x2.toInt := i_nlt rfl (show ((0 : Int32)).toInt = 0 by decide) c8
    refine lv_aload_n hx hb dX1_placeOf_11 rfl (lv_at hl 0 rfl) ?_
    refine va_get (D := G) (ci := 1) (v := .ref qm1) (C := RX1) (T := TX1) (N := 6) hx hb hts hiX1 hown hK hP 0 rfl rfl 0 (by decide) hf9 (fun _ h9 => h9) rfl dX1_placeOf_12 ?_
    refine lv_iload_n hx hb dX1_placeOf_15 rfl (lv_at hl 2 rfl) ?_
    refine va_iald hx hb hK hP 1 0 rfl rfl (vi_in rfl (by omega) (by omega)) dX1_placeOf_16 ?_
    refine lv_topi (fun x16 ex16 => ?_)
    have ex16 : x16 = kt x2.toInt.toNat := by rw [ex16]; exact congrArg _ (cl_nat rfl (by omega))
    have tx16 : x16.toInt = (kt x2.toInt.toNat).toInt := by rw [ex16]
    refine lv_iload_n hx hb dX1_placeOf_17 rfl (lv_at hl 1 rfl) ?_
    refine lv_icmp_le (tgt := 27) hx hb dX1_placeOf_18 (by decide) (fun c18 => ?_) (fun c18 => ?_)
    · have k18 : (x16.toInt : Int) ≤ p0.toInt := i_le rfl rfl c18
      have fr : x2.toInt = bi kt p0.toInt nm := bi_srt hSr (by omega) (by omega) (by omega) (fun k h1 h2 => i2 k h1 h2)
      refine lv_iload_n hx hb dX1_placeOf_27 rfl (lv_at hl 2 rfl) ?_
      exact W.iret (v := x2) hx hb hr (fun t ht hW => ⟨⟨x2, (), rfl, (by (try dsimp only); exact (by omega)), by rw [ht]; exact hP, hD⟩, hS.F ht⟩) hS.2.2 dX1_placeOf_28
    · have k18 : (p0.toInt : Int) < x16.toInt := i_nle rfl rfl c18
      obtain ⟨x21, ex21⟩ : ∃ y : Int32, y = x2 + (-1) := ⟨_, rfl⟩
      have tx21 : x21.toInt = x2.toInt + (-1) := by rw [ex21]; exact ti_add rfl (by decide) (by omega) (by omega)
      refine lv_iinc (v := x21) (lv' := [(2, .int x21), (0, .ref qm), (1, .int p0)]) hx hb dX1_placeOf_21 hl (k := 2) rfl (by rw [ex21]; rfl) (by decide) rfl (fun ls hl => ?_)
      refine lv_goto (tgt := 7) hx hb dX1_placeOf_24 (by decide) ?_
      exact ih7 x21 ls _ _ ⟨hP, hD, hS, lv_sub hl [1, 2, 0] rfl, (show -1 ≤ x21.toInt ∧ x21.toInt < nm from by omega), (show ∀ k : Nat, k < nm → x21.toInt < k → p0.toInt < (kt k).toInt from fun k h1 h2 => (Decidable.em (x2.toInt < (k : Int))).elim (fun h => i2 k h1 h) (fun h => by rw [show k = x2.toInt.toNat by omega]; omega))⟩ (show (x21.toInt + 1).toNat < (x2.toInt + 1).toNat from by omega)
set_option maxHeartbeats 1000000 in
set_option maxRecDepth 100000 in
theorem ct_X1_isInsideSlope (l : Launch) (G : va_G) (cI cL : ClassId) (sz : Nat) (qm : Nat) (qm1 : Nat) (qm2 : Nat) (qm3 : Nat) (qm4 : Nat) (qm5 : Nat) (zm : Int32) (kt : Nat → Int32) (ks : Nat → Int32) (kf : Nat → Int32) (kl : Nat → Int32) (ku : Nat → Int64) (p0 : Int32) (nm : Nat) (hnm : zm.toInt = nm) (hOm : okM nm kt ks kf kl) (hSr : srt nm kt) (hp0 : -1 ≤ p0.toInt ∧ p0.toInt ≤ 1000000) : Met l yX1_isInsideSlope wsX1_isInsideSlope ({ frames := 1, cells := 0, slots := 0, locals := 22 }) (va_Pc [.ref qm, .int p0] (pre0 G cI cL [(qm, .inr (1, [.ref qm1, .ref qm2, .ref qm3, .ref qm4, .ref qm5, .int zm])), (qm1, .inl (cI, 40, .inl kt)), (qm2, .inl (cI, 40, .inl ks)), (qm3, .inl (cI, 40, .inl kf)), (qm4, .inl (cI, 40, .inl kl)), (qm5, .inl (cL, 40, .inr (.inl ku)))] sz)) (va_Qi (fun (r : Int32) (u : Unit) => (r.toInt = 1 ∧ insS nm kt ks p0.toInt) ∨ (r.toInt = 0 ∧ ¬ insS nm kt ks p0.toInt)) (fun (u : Unit) t => va_P G vwCl [(qm, .inr (1, [.ref qm1, .ref qm2, .ref qm3, .ref qm4, .ref qm5, .int zm])), (qm1, .inl (cI, 40, .inl kt)), (qm2, .inl (cI, 40, .inl ks)), (qm3, .inl (cI, 40, .inl kf)), (qm4, .inl (cI, 40, .inl kl)), (qm5, .inl (cL, 40, .inr (.inl ku)))] t.heap ∧ va_D (va_A [(qm, .inr (1, [.ref qm1, .ref qm2, .ref qm3, .ref qm4, .ref qm5, .int zm])), (qm1, .inl (cI, 40, .inl kt)), (qm2, .inl (cI, 40, .inl ks)), (qm3, .inl (cI, 40, .inl kf)), (qm4, .inl (cI, 40, .inl kl)), (qm5, .inl (cL, 40, .inr (.inl ku)))] sz) [(qm, .inr (1, [.ref qm1, .ref qm2, .ref qm3, .ref qm4, .ref qm5, .int zm])), (qm1, .inl (cI, 40, .inl kt)), (qm2, .inl (cI, 40, .inl ks)), (qm3, .inl (cI, 40, .inl kf)), (qm4, .inl (cI, 40, .inl kl)), (qm5, .inl (cL, 40, .inr (.inl ku)))]) (va_A [(qm, .inr (1, [.ref qm1, .ref qm2, .ref qm3, .ref qm4, .ref qm5, .int zm])), (qm1, .inl (cI, 40, .inl kt)), (qm2, .inl (cI, 40, .inl ks)), (qm3, .inl (cI, 40, .inl kf)), (qm4, .inl (cI, 40, .inl kl)), (qm5, .inl (cL, 40, .inr (.inl ku)))] sz)) 0 0 (va_A [(qm, .inr (1, [.ref qm1, .ref qm2, .ref qm3, .ref qm4, .ref qm5, .int zm])), (qm1, .inl (cI, 40, .inl kt)), (qm2, .inl (cI, 40, .inl ks)), (qm3, .inl (cI, 40, .inl kf)), (qm4, .inl (cI, 40, .inl kl)), (qm5, .inl (cL, 40, .inr (.inl ku)))] sz) := by
  refine Met.ofW (cc := cX1_isInsideSlope) (maxL := 3) (ret := (some .boolean)) (by decide) rfl ?_
  intro p e s m args below meth c s₁ B hml hv
  obtain ⟨rfl, hsz, hP, hK, hD0, hN⟩ := hv
  have hx := B.exec
  have hb := B.bytes
  have hr := B.returns
  have hts := atoms_spec (ws := wsX1_isInsideSlope) B.pre
  have hown : s.vm.findClass RX1 = some m.cls := findClass_of_methodNamed B.named
  have hlocks := B.notSynchronized
  subst hsz
  have hD := hD0.self (sz := s.heap.size)
  generalize hAe : va_A [(qm, .inr (1, [.ref qm1, .ref qm2, .ref qm3, .ref qm4, .ref qm5, .int zm])), (qm1, .inl (cI, 40, .inl kt)), (qm2, .inl (cI, 40, .inl ks)), (qm3, .inl (cI, 40, .inl kf)), (qm4, .inl (cI, 40, .inl kl)), (qm5, .inl (cL, 40, .inr (.inl ku)))] s.heap.size = A at hD ⊢
  have hA : ∀ q : Nat, s.heap.size ≤ q → A q := fun q h => by rw [← hAe]; exact Or.inr h
  have hP : va_P G vwCl [(qm, .inr (1, [.ref qm1, .ref qm2, .ref qm3, .ref qm4, .ref qm5, .int zm])), (qm1, .inl (cI, 40, .inl kt)), (qm2, .inl (cI, 40, .inl ks)), (qm3, .inl (cI, 40, .inl kf)), (qm4, .inl (cI, 40, .inl kl)), (qm5, .inl (cL, 40, .inr (.inl ku)))] s.heap := hP
  have hl := lv_entry ([.ref qm, .int p0]) (n := 3) (Nat.le_of_ble_eq_true rfl)
  rw [lg_entry_eq]
  generalize (lg_sl ([.ref qm, .int p0]) ++ List.replicate (3 - (lg_sl ([.ref qm, .int p0])).length) Slot.unset).toArray = ls at hl ⊢
  have hl : lv_has ls 3 [(0, .ref qm), (1, .int p0)] := hl
  have hf9 := hts (.fieldLink RX1 9 "TempoMaps$Marks" "ticks" "[I") (by decide +kernel)
  have hf15 := hts (.fieldLink RX1 15 "TempoMaps$Marks" "spans" "[I") (by decide +kernel)
  have hiX1 : ∀ w ∈ wsX10, w ∈ wsX1_isInsideSlope := by decide +kernel
  have zi0 : ((0 : Int32)).toInt = 0 := by decide
  have zi1 : ((1 : Int32)).toInt = 1 := by decide
  refine w_h (A := A) hP (fun H locs hP hS => ?_)
  have hn40 := hOm.1
  have hrg := hOm.2.1
  refine lv_aload_n hx hb dX1_isInsideSlope_0 rfl (lv_at hl 0 rfl) ?_
  refine lv_iload_n hx hb dX1_isInsideSlope_1 rfl (lv_at hl 1 rfl) ?_
  have hPc := hP.sub (ws' := [(qm, .inr (1, [.ref qm1, .ref qm2, .ref qm3, .ref qm4, .ref qm5, .int zm])), (qm1, .inl (cI, 40, .inl kt)), (qm2, .inl (cI, 40, .inl ks)), (qm3, .inl (cI, 40, .inl kf)), (qm4, .inl (cI, 40, .inl kl)), (qm5, .inl (cL, 40, .inr (.inl ku)))]) [0, 1, 2, 3, 4, 5] rfl
  have hDc := hD.sub (ws' := [(qm, .inr (1, [.ref qm1, .ref qm2, .ref qm3, .ref qm4, .ref qm5, .int zm])), (qm1, .inl (cI, 40, .inl kt)), (qm2, .inl (cI, 40, .inl ks)), (qm3, .inl (cI, 40, .inl kf)), (qm4, .inl (cI, 40, .inl kl)), (qm5, .inl (cL, 40, .inr (.inl ku)))]) [0, 1, 2, 3, 4, 5] (by decide) rfl
  have hcc := (ct_X1_placeOf l G cI cL H.size qm qm1 qm2 qm3 qm4 qm5 zm kt ks kf kl ku p0 nm hnm hOm hSr)
  refine ro_calli (va_runV (As := [.int p0]) (rest := []) ⟨hx, hb, hml, hown, hts⟩ hcc (cwV 1 hts gX1_isInsideSlope_X1_placeOf rfl rfl rfl (by decide +kernel) ⟨Nat.le_of_ble_eq_true rfl, Nat.le_of_ble_eq_true rfl⟩) ⟨pre_blind, va_recv hK hPc (ci := 1) (q0 := 0) rfl rfl, pre_pass hK hN hPc hDc⟩ rfl rfl hl.1 rfl (lv_room (Nat.le_of_ble_eq_true rfl)) dX1_isInsideSlope_2 ⟨Nat.le_of_ble_eq_true rfl, Nat.le_of_ble_eq_true rfl⟩) hP hD hS hA [0, 1, 2, 3, 4, 5] rfl (fun r2 H locs hw2 hP hS => ?_)
  try dsimp only at hw2
  refine lv_istore_n (lv' := [(2, .int r2), (0, .ref qm), (1, .int p0)]) hx hb dX1_isInsideSlope_5 rfl hl (by decide) rfl (fun ls hl => ?_)
  refine lv_iload_n hx hb dX1_isInsideSlope_6 rfl (lv_at hl 0 rfl) ?_
  refine lv_if_lt (tgt := 41) hx hb dX1_isInsideSlope_7 (by decide) (fun c7 => ?_) (fun c7 => ?_)
  · have k7 : (r2.toInt : Int) < 0 := i_lt rfl (show ((0 : Int32)).toInt = 0 by decide) c7
    have bn := bi_neg hw2 k7
    refine lv_iconst (v := 0) hx hb dX1_isInsideSlope_41 (by decide) ?_
    exact W.zret (v := 0) hx hb hr (by decide) (fun t ht hW => ⟨⟨0, (), rfl, (by (try dsimp only); exact (by first | exact Or.inl ⟨by omega, r2.toInt.toNat, bg.1, by omega, by omega⟩ | exact Or.inr ⟨by omega, ins_none bn.2⟩ | exact Or.inr ⟨by omega, ins_no hOm bg.1 bg.2.2.2 (by omega) bg.2.2.1⟩)), by rw [ht]; exact hP, hD⟩, hS.F ht⟩) hS.2.2 dX1_isInsideSlope_42
  · have k7 : (0 : Int) ≤ r2.toInt := i_nlt rfl (show ((0 : Int32)).toInt = 0 by decide) c7
    have bg := bi_get hw2 k7
    refine lv_aload_n hx hb dX1_isInsideSlope_10 rfl (lv_at hl 1 rfl) ?_
    refine va_get (D := G) (ci := 1) (v := .ref qm1) (C := RX1) (T := TX1) (N := 6) hx hb hts hiX1 hown hK hP 0 rfl rfl 0 (by decide) hf9 (fun _ h9 => h9) rfl dX1_isInsideSlope_11 ?_
    refine lv_iload_n hx hb dX1_isInsideSlope_14 rfl (lv_at hl 0 rfl) ?_
    refine va_iald hx hb hK hP 1 0 rfl rfl (vi_in rfl (by omega) (by omega)) dX1_isInsideSlope_15 ?_
    refine lv_topi (fun x15 ex15 => ?_)
    have ex15 : x15 = kt r2.toInt.toNat := by rw [ex15]; exact congrArg _ (cl_nat rfl (by omega))
    have tx15 : x15.toInt = (kt r2.toInt.toNat).toInt := by rw [ex15]
    have hrg_x15 := hrg r2.toInt.toNat (by omega)
    refine lv_iload_n hx hb dX1_isInsideSlope_16 rfl (lv_at hl 2 rfl) ?_
    refine lv_icmp_ge (tgt := 41) hx hb dX1_isInsideSlope_17 (by decide) (fun c17 => ?_) (fun c17 => ?_)
    · have k17 : (p0.toInt : Int) ≤ x15.toInt := i_le rfl rfl c17
      refine lv_iconst (v := 0) hx hb dX1_isInsideSlope_41 (by decide) ?_
      exact W.zret (v := 0) hx hb hr (by decide) (fun t ht hW => ⟨⟨0, (), rfl, (by (try dsimp only); exact (by first | exact Or.inl ⟨by omega, r2.toInt.toNat, bg.1, by omega, by omega⟩ | exact Or.inr ⟨by omega, ins_none bn.2⟩ | exact Or.inr ⟨by omega, ins_no hOm bg.1 bg.2.2.2 (by omega) bg.2.2.1⟩)), by rw [ht]; exact hP, hD⟩, hS.F ht⟩) hS.2.2 dX1_isInsideSlope_42
    · have k17 : (x15.toInt : Int) < p0.toInt := i_nle rfl rfl c17
      refine lv_iload_n hx hb dX1_isInsideSlope_20 rfl (lv_at hl 2 rfl) ?_
      refine lv_aload_n hx hb dX1_isInsideSlope_21 rfl (lv_at hl 1 rfl) ?_
      refine va_get (D := G) (ci := 1) (v := .ref qm1) (C := RX1) (T := TX1) (N := 6) hx hb hts hiX1 hown hK hP 0 rfl rfl 0 (by decide) hf9 (fun _ h9 => h9) rfl dX1_isInsideSlope_22 ?_
      refine lv_iload_n hx hb dX1_isInsideSlope_25 rfl (lv_at hl 0 rfl) ?_
      refine va_iald hx hb hK hP 1 0 rfl rfl (vi_in rfl (by omega) (by omega)) dX1_isInsideSlope_26 ?_
      refine lv_topi (fun x26 ex26 => ?_)
      have ex26 : x26 = kt r2.toInt.toNat := by rw [ex26]; exact congrArg _ (cl_nat rfl (by omega))
      have tx26 : x26.toInt = (kt r2.toInt.toNat).toInt := by rw [ex26]
      have hrg_x26 := hrg r2.toInt.toNat (by omega)
      refine lv_isub hx hb dX1_isInsideSlope_27 ?_
      refine lv_topi (fun x27 ex27 => ?_)
      have tx27 : x27.toInt = p0.toInt - x26.toInt := by rw [ex27]; exact ti_sub rfl rfl (by omega) (by omega)
      refine lv_aload_n hx hb dX1_isInsideSlope_28 rfl (lv_at hl 1 rfl) ?_
      refine va_get (D := G) (ci := 1) (v := .ref qm2) (C := RX1) (T := TX1) (N := 6) hx hb hts hiX1 hown hK hP 0 rfl rfl 1 (by decide) hf15 (fun _ h9 => h9) rfl dX1_isInsideSlope_29 ?_
      refine lv_iload_n hx hb dX1_isInsideSlope_32 rfl (lv_at hl 0 rfl) ?_
      refine va_iald hx hb hK hP 2 0 rfl rfl (vi_in rfl (by omega) (by omega)) dX1_isInsideSlope_33 ?_
      refine lv_topi (fun x33 ex33 => ?_)
      have ex33 : x33 = ks r2.toInt.toNat := by rw [ex33]; exact congrArg _ (cl_nat rfl (by omega))
      have tx33 : x33.toInt = (ks r2.toInt.toNat).toInt := by rw [ex33]
      have hrg_x33 := hrg r2.toInt.toNat (by omega)
      refine lv_icmp_ge (tgt := 41) hx hb dX1_isInsideSlope_34 (by decide) (fun c34 => ?_) (fun c34 => ?_)
      · have k34 : (x33.toInt : Int) ≤ x27.toInt := i_le rfl rfl c34
        refine lv_iconst (v := 0) hx hb dX1_isInsideSlope_41 (by decide) ?_
        exact W.zret (v := 0) hx hb hr (by decide) (fun t ht hW => ⟨⟨0, (), rfl, (by (try dsimp only); exact (by first | exact Or.inl ⟨by omega, r2.toInt.toNat, bg.1, by omega, by omega⟩ | exact Or.inr ⟨by omega, ins_none bn.2⟩ | exact Or.inr ⟨by omega, ins_no hOm bg.1 bg.2.2.2 (by omega) bg.2.2.1⟩)), by rw [ht]; exact hP, hD⟩, hS.F ht⟩) hS.2.2 dX1_isInsideSlope_42
      · have k34 : (x27.toInt : Int) < x33.toInt := i_nle rfl rfl c34
        refine lv_iconst (v := 1) hx hb dX1_isInsideSlope_37 (by decide) ?_
        refine lv_goto (tgt := 42) hx hb dX1_isInsideSlope_38 (by decide) ?_
        exact W.zret (v := 1) hx hb hr (by decide) (fun t ht hW => ⟨⟨1, (), rfl, (by (try dsimp only); exact (by first | exact Or.inl ⟨by omega, r2.toInt.toNat, bg.1, by omega, by omega⟩ | exact Or.inr ⟨by omega, ins_none bn.2⟩ | exact Or.inr ⟨by omega, ins_no hOm bg.1 bg.2.2.2 (by omega) bg.2.2.1⟩)), by rw [ht]; exact hP, hD⟩, hS.F ht⟩) hS.2.2 dX1_isInsideSlope_42
set_option maxHeartbeats 1000000 in
set_option maxRecDepth 100000 in
theorem ct_X1_isAnyBetween (l : Launch) (G : va_G) (cI cL : ClassId) (sz : Nat) (qm : Nat) (qm1 : Nat) (qm2 : Nat) (qm3 : Nat) (qm4 : Nat) (qm5 : Nat) (zm : Int32) (kt : Nat → Int32) (ks : Nat → Int32) (kf : Nat → Int32) (kl : Nat → Int32) (ku : Nat → Int64) (p0 : Int32) (p1 : Int32) (nm : Nat) (hnm : zm.toInt = nm) (hOm : okM nm kt ks kf kl) (hSr : srt nm kt) (hp0 : -1 ≤ p0.toInt ∧ p0.toInt ≤ 1000000) (hp1 : 0 ≤ p1.toInt ∧ p1.toInt ≤ 1000000) : Met l yX1_isAnyBetween wsX1_isAnyBetween ({ frames := 1, cells := 0, slots := 0, locals := 22 }) (va_Pc [.ref qm, .int p0, .int p1] (pre0 G cI cL [(qm, .inr (1, [.ref qm1, .ref qm2, .ref qm3, .ref qm4, .ref qm5, .int zm])), (qm1, .inl (cI, 40, .inl kt)), (qm2, .inl (cI, 40, .inl ks)), (qm3, .inl (cI, 40, .inl kf)), (qm4, .inl (cI, 40, .inl kl)), (qm5, .inl (cL, 40, .inr (.inl ku)))] sz)) (va_Qi (fun (r : Int32) (u : Unit) => (r.toInt = 1 ∧ btw nm kt p0.toInt p1.toInt) ∨ (r.toInt = 0 ∧ ¬ btw nm kt p0.toInt p1.toInt)) (fun (u : Unit) t => va_P G vwCl [(qm, .inr (1, [.ref qm1, .ref qm2, .ref qm3, .ref qm4, .ref qm5, .int zm])), (qm1, .inl (cI, 40, .inl kt)), (qm2, .inl (cI, 40, .inl ks)), (qm3, .inl (cI, 40, .inl kf)), (qm4, .inl (cI, 40, .inl kl)), (qm5, .inl (cL, 40, .inr (.inl ku)))] t.heap ∧ va_D (va_A [(qm, .inr (1, [.ref qm1, .ref qm2, .ref qm3, .ref qm4, .ref qm5, .int zm])), (qm1, .inl (cI, 40, .inl kt)), (qm2, .inl (cI, 40, .inl ks)), (qm3, .inl (cI, 40, .inl kf)), (qm4, .inl (cI, 40, .inl kl)), (qm5, .inl (cL, 40, .inr (.inl ku)))] sz) [(qm, .inr (1, [.ref qm1, .ref qm2, .ref qm3, .ref qm4, .ref qm5, .int zm])), (qm1, .inl (cI, 40, .inl kt)), (qm2, .inl (cI, 40, .inl ks)), (qm3, .inl (cI, 40, .inl kf)), (qm4, .inl (cI, 40, .inl kl)), (qm5, .inl (cL, 40, .inr (.inl ku)))]) (va_A [(qm, .inr (1, [.ref qm1, .ref qm2, .ref qm3, .ref qm4, .ref qm5, .int zm])), (qm1, .inl (cI, 40, .inl kt)), (qm2, .inl (cI, 40, .inl ks)), (qm3, .inl (cI, 40, .inl kf)), (qm4, .inl (cI, 40, .inl kl)), (qm5, .inl (cL, 40, .inr (.inl ku)))] sz)) 0 0 (va_A [(qm, .inr (1, [.ref qm1, .ref qm2, .ref qm3, .ref qm4, .ref qm5, .int zm])), (qm1, .inl (cI, 40, .inl kt)), (qm2, .inl (cI, 40, .inl ks)), (qm3, .inl (cI, 40, .inl kf)), (qm4, .inl (cI, 40, .inl kl)), (qm5, .inl (cL, 40, .inr (.inl ku)))] sz) := by
  refine Met.ofW (cc := cX1_isAnyBetween) (maxL := 4) (ret := (some .boolean)) (by decide) rfl ?_
  intro p e s m args below meth c s₁ B hml hv
  obtain ⟨rfl, hsz, hP, hK, hD0, hN⟩ := hv
  have hx := B.exec
  have hb := B.bytes
  have hr := B.returns
  have hts := atoms_spec (ws := wsX1_isAnyBetween) B.pre
  have hown : s.vm.findClass RX1 = some m.cls := findClass_of_methodNamed B.named
  have hlocks := B.notSynchronized
  subst hsz
  have hD := hD0.self (sz := s.heap.size)
  generalize hAe : va_A [(qm, .inr (1, [.ref qm1, .ref qm2, .ref qm3, .ref qm4, .ref qm5, .int zm])), (qm1, .inl (cI, 40, .inl kt)), (qm2, .inl (cI, 40, .inl ks)), (qm3, .inl (cI, 40, .inl kf)), (qm4, .inl (cI, 40, .inl kl)), (qm5, .inl (cL, 40, .inr (.inl ku)))] s.heap.size = A at hD ⊢
  have hA : ∀ q : Nat, s.heap.size ≤ q → A q := fun q h => by rw [← hAe]; exact Or.inr h
  have hP : va_P G vwCl [(qm, .inr (1, [.ref qm1, .ref qm2, .ref qm3, .ref qm4, .ref qm5, .int zm])), (qm1, .inl (cI, 40, .inl kt)), (qm2, .inl (cI, 40, .inl ks)), (qm3, .inl (cI, 40, .inl kf)), (qm4, .inl (cI, 40, .inl kl)), (qm5, .inl (cL, 40, .inr (.inl ku)))] s.heap := hP
  have hl := lv_entry ([.ref qm, .int p0, .int p1]) (n := 4) (Nat.le_of_ble_eq_true rfl)
  rw [lg_entry_eq]
  generalize (lg_sl ([.ref qm, .int p0, .int p1]) ++ List.replicate (4 - (lg_sl ([.ref qm, .int p0, .int p1])).length) Slot.unset).toArray = ls at hl ⊢
  have hl : lv_has ls 4 [(0, .ref qm), (1, .int p0), (2, .int p1)] := hl
  have hf9 := hts (.fieldLink RX1 9 "TempoMaps$Marks" "ticks" "[I") (by decide +kernel)
  have hiX1 : ∀ w ∈ wsX10, w ∈ wsX1_isAnyBetween := by decide +kernel
  have zi0 : ((0 : Int32)).toInt = 0 := by decide
  have zi1 : ((1 : Int32)).toInt = 1 := by decide
  refine w_h (A := A) hP (fun H locs hP hS => ?_)
  have hn40 := hOm.1
  have hrg := hOm.2.1
  refine lv_aload_n hx hb dX1_isAnyBetween_0 rfl (lv_at hl 0 rfl) ?_
  refine lv_iload_n hx hb dX1_isAnyBetween_1 rfl (lv_at hl 2 rfl) ?_
  refine lv_iconst (v := 1) hx hb dX1_isAnyBetween_2 (by decide) ?_
  refine lv_isub hx hb dX1_isAnyBetween_3 ?_
  refine lv_topi (fun x3 ex3 => ?_)
  have tx3 : x3.toInt = p1.toInt - 1 := by rw [ex3]; exact ti_sub rfl (show ((1 : Int32)).toInt = 1 by decide) (by omega) (by omega)
  have hPc := hP.sub (ws' := [(qm, .inr (1, [.ref qm1, .ref qm2, .ref qm3, .ref qm4, .ref qm5, .int zm])), (qm1, .inl (cI, 40, .inl kt)), (qm2, .inl (cI, 40, .inl ks)), (qm3, .inl (cI, 40, .inl kf)), (qm4, .inl (cI, 40, .inl kl)), (qm5, .inl (cL, 40, .inr (.inl ku)))]) [0, 1, 2, 3, 4, 5] rfl
  have hDc := hD.sub (ws' := [(qm, .inr (1, [.ref qm1, .ref qm2, .ref qm3, .ref qm4, .ref qm5, .int zm])), (qm1, .inl (cI, 40, .inl kt)), (qm2, .inl (cI, 40, .inl ks)), (qm3, .inl (cI, 40, .inl kf)), (qm4, .inl (cI, 40, .inl kl)), (qm5, .inl (cL, 40, .inr (.inl ku)))]) [0, 1, 2, 3, 4, 5] (by decide) rfl
  have hcc := (ct_X1_placeOf l G cI cL H.size qm qm1 qm2 qm3 qm4 qm5 zm kt ks kf kl ku x3 nm hnm hOm hSr)
  refine ro_calli (va_runV (As := [.int x3]) (rest := []) ⟨hx, hb, hml, hown, hts⟩ hcc (cwV 1 hts gX1_isAnyBetween_X1_placeOf rfl rfl rfl (by decide +kernel) ⟨Nat.le_of_ble_eq_true rfl, Nat.le_of_ble_eq_true rfl⟩) ⟨pre_blind, va_recv hK hPc (ci := 1) (q0 := 0) rfl rfl, pre_pass hK hN hPc hDc⟩ rfl rfl hl.1 rfl (lv_room (Nat.le_of_ble_eq_true rfl)) dX1_isAnyBetween_4 ⟨Nat.le_of_ble_eq_true rfl, Nat.le_of_ble_eq_true rfl⟩) hP hD hS hA [0, 1, 2, 3, 4, 5] rfl (fun r4 H locs hw4 hP hS => ?_)
  try dsimp only at hw4
  refine lv_istore_n (lv' := [(3, .int r4), (0, .ref qm), (1, .int p0), (2, .int p1)]) hx hb dX1_isAnyBetween_7 rfl hl (by decide) rfl (fun ls hl => ?_)
  refine lv_iload_n hx hb dX1_isAnyBetween_8 rfl (lv_at hl 0 rfl) ?_
  refine lv_if_lt (tgt := 26) hx hb dX1_isAnyBetween_9 (by decide) (fun c9 => ?_) (fun c9 => ?_)
  · have k9 : (r4.toInt : Int) < 0 := i_lt rfl (show ((0 : Int32)).toInt = 0 by decide) c9
    have bn := bi_neg hw4 k9
    refine lv_iconst (v := 0) hx hb dX1_isAnyBetween_26 (by decide) ?_
    exact W.zret (v := 0) hx hb hr (by decide) (fun t ht hW => ⟨⟨0, (), rfl, (by (try dsimp only); exact (by first | exact Or.inl ⟨by omega, r4.toInt.toNat, bg.1, by omega, by omega⟩ | exact Or.inr ⟨by omega, fun ⟨k, q1, q2, q3⟩ => by have := bn.2 k q1; omega⟩ | exact Or.inr ⟨by omega, fun ⟨k, q1, q2, q3⟩ => by have := bg.2.2.2 k q1 (by omega); omega⟩)), by rw [ht]; exact hP, hD⟩, hS.F ht⟩) hS.2.2 dX1_isAnyBetween_27
  · have k9 : (0 : Int) ≤ r4.toInt := i_nlt rfl (show ((0 : Int32)).toInt = 0 by decide) c9
    have bg := bi_get hw4 k9
    refine lv_aload_n hx hb dX1_isAnyBetween_12 rfl (lv_at hl 1 rfl) ?_
    refine va_get (D := G) (ci := 1) (v := .ref qm1) (C := RX1) (T := TX1) (N := 6) hx hb hts hiX1 hown hK hP 0 rfl rfl 0 (by decide) hf9 (fun _ h9 => h9) rfl dX1_isAnyBetween_13 ?_
    refine lv_iload_n hx hb dX1_isAnyBetween_16 rfl (lv_at hl 0 rfl) ?_
    refine va_iald hx hb hK hP 1 0 rfl rfl (vi_in rfl (by omega) (by omega)) dX1_isAnyBetween_17 ?_
    refine lv_topi (fun x17 ex17 => ?_)
    have ex17 : x17 = kt r4.toInt.toNat := by rw [ex17]; exact congrArg _ (cl_nat rfl (by omega))
    have tx17 : x17.toInt = (kt r4.toInt.toNat).toInt := by rw [ex17]
    have hrg_x17 := hrg r4.toInt.toNat (by omega)
    refine lv_iload_n hx hb dX1_isAnyBetween_18 rfl (lv_at hl 2 rfl) ?_
    refine lv_icmp_le (tgt := 26) hx hb dX1_isAnyBetween_19 (by decide) (fun c19 => ?_) (fun c19 => ?_)
    · have k19 : (x17.toInt : Int) ≤ p0.toInt := i_le rfl rfl c19
      refine lv_iconst (v := 0) hx hb dX1_isAnyBetween_26 (by decide) ?_
      exact W.zret (v := 0) hx hb hr (by decide) (fun t ht hW => ⟨⟨0, (), rfl, (by (try dsimp only); exact (by first | exact Or.inl ⟨by omega, r4.toInt.toNat, bg.1, by omega, by omega⟩ | exact Or.inr ⟨by omega, fun ⟨k, q1, q2, q3⟩ => by have := bn.2 k q1; omega⟩ | exact Or.inr ⟨by omega, fun ⟨k, q1, q2, q3⟩ => by have := bg.2.2.2 k q1 (by omega); omega⟩)), by rw [ht]; exact hP, hD⟩, hS.F ht⟩) hS.2.2 dX1_isAnyBetween_27
    · have k19 : (p0.toInt : Int) < x17.toInt := i_nle rfl rfl c19
      refine lv_iconst (v := 1) hx hb dX1_isAnyBetween_22 (by decide) ?_
      refine lv_goto (tgt := 27) hx hb dX1_isAnyBetween_23 (by decide) ?_
      exact W.zret (v := 1) hx hb hr (by decide) (fun t ht hW => ⟨⟨1, (), rfl, (by (try dsimp only); exact (by first | exact Or.inl ⟨by omega, r4.toInt.toNat, bg.1, by omega, by omega⟩ | exact Or.inr ⟨by omega, fun ⟨k, q1, q2, q3⟩ => by have := bn.2 k q1; omega⟩ | exact Or.inr ⟨by omega, fun ⟨k, q1, q2, q3⟩ => by have := bg.2.2.2 k q1 (by omega); omega⟩)), by rw [ht]; exact hP, hD⟩, hS.F ht⟩) hS.2.2 dX1_isAnyBetween_27
set_option maxHeartbeats 1000000 in
set_option maxRecDepth 100000 in
theorem ct_X1_tell (l : Launch) (G : va_G) (cI cL : ClassId) (sz : Nat) (qm : Nat) (qm1 : Nat) (qm2 : Nat) (qm3 : Nat) (qm4 : Nat) (qm5 : Nat) (zm : Int32) (kt : Nat → Int32) (ks : Nat → Int32) (kf : Nat → Int32) (kl : Nat → Int32) (ku : Nat → Int64) (p0 : Int32) (p1 : Int32) (nm : Nat) (hnm : zm.toInt = nm) (hOm : okM nm kt ks kf kl) (hp1 : 0 ≤ p1.toInt ∧ p1.toInt ≤ 4) : Met l yX1_tell wsX1_tell ({ frames := 0, cells := 0, slots := 0, locals := 0 }) (va_Pc [.ref qm, .int p0, .int p1] (pre0 G cI cL [(qm, .inr (1, [.ref qm1, .ref qm2, .ref qm3, .ref qm4, .ref qm5, .int zm])), (qm1, .inl (cI, 40, .inl kt)), (qm2, .inl (cI, 40, .inl ks)), (qm3, .inl (cI, 40, .inl kf)), (qm4, .inl (cI, 40, .inl kl)), (qm5, .inl (cL, 40, .inr (.inl ku)))] sz)) (va_Qi (fun (r : Int32) (u : Unit) => ((p0.toInt < 0 ∨ nm ≤ p0.toInt) ∧ r.toInt = -1) ∨ (0 ≤ p0.toInt ∧ p0.toInt < nm ∧ r.toInt = tellV kt ks kf kl p0.toInt.toNat p1.toInt)) (fun (u : Unit) t => va_P G vwCl [(qm, .inr (1, [.ref qm1, .ref qm2, .ref qm3, .ref qm4, .ref qm5, .int zm])), (qm1, .inl (cI, 40, .inl kt)), (qm2, .inl (cI, 40, .inl ks)), (qm3, .inl (cI, 40, .inl kf)), (qm4, .inl (cI, 40, .inl kl)), (qm5, .inl (cL, 40, .inr (.inl ku)))] t.heap ∧ va_D (va_A [(qm, .inr (1, [.ref qm1, .ref qm2, .ref qm3, .ref qm4, .ref qm5, .int zm])), (qm1, .inl (cI, 40, .inl kt)), (qm2, .inl (cI, 40, .inl ks)), (qm3, .inl (cI, 40, .inl kf)), (qm4, .inl (cI, 40, .inl kl)), (qm5, .inl (cL, 40, .inr (.inl ku)))] sz) [(qm, .inr (1, [.ref qm1, .ref qm2, .ref qm3, .ref qm4, .ref qm5, .int zm])), (qm1, .inl (cI, 40, .inl kt)), (qm2, .inl (cI, 40, .inl ks)), (qm3, .inl (cI, 40, .inl kf)), (qm4, .inl (cI, 40, .inl kl)), (qm5, .inl (cL, 40, .inr (.inl ku)))]) (va_A [(qm, .inr (1, [.ref qm1, .ref qm2, .ref qm3, .ref qm4, .ref qm5, .int zm])), (qm1, .inl (cI, 40, .inl kt)), (qm2, .inl (cI, 40, .inl ks)), (qm3, .inl (cI, 40, .inl kf)), (qm4, .inl (cI, 40, .inl kl)), (qm5, .inl (cL, 40, .inr (.inl ku)))] sz)) 0 0 (va_A [(qm, .inr (1, [.ref qm1, .ref qm2, .ref qm3, .ref qm4, .ref qm5, .int zm])), (qm1, .inl (cI, 40, .inl kt)), (qm2, .inl (cI, 40, .inl ks)), (qm3, .inl (cI, 40, .inl kf)), (qm4, .inl (cI, 40, .inl kl)), (qm5, .inl (cL, 40, .inr (.inl ku)))] sz) := by
  refine Met.ofW (cc := cX1_tell) (maxL := 3) (ret := (some .int)) (by decide) rfl ?_
  intro p e s m args below meth c s₁ B hml hv
  obtain ⟨rfl, hsz, hP, hK, hD0, hN⟩ := hv
  have hx := B.exec
  have hb := B.bytes
  have hr := B.returns
  have hts := atoms_spec (ws := wsX1_tell) B.pre
  have hown : s.vm.findClass RX1 = some m.cls := findClass_of_methodNamed B.named
  have hlocks := B.notSynchronized
  subst hsz
  have hD := hD0.self (sz := s.heap.size)
  generalize hAe : va_A [(qm, .inr (1, [.ref qm1, .ref qm2, .ref qm3, .ref qm4, .ref qm5, .int zm])), (qm1, .inl (cI, 40, .inl kt)), (qm2, .inl (cI, 40, .inl ks)), (qm3, .inl (cI, 40, .inl kf)), (qm4, .inl (cI, 40, .inl kl)), (qm5, .inl (cL, 40, .inr (.inl ku)))] s.heap.size = A at hD ⊢
  have hA : ∀ q : Nat, s.heap.size ≤ q → A q := fun q h => by rw [← hAe]; exact Or.inr h
  have hP : va_P G vwCl [(qm, .inr (1, [.ref qm1, .ref qm2, .ref qm3, .ref qm4, .ref qm5, .int zm])), (qm1, .inl (cI, 40, .inl kt)), (qm2, .inl (cI, 40, .inl ks)), (qm3, .inl (cI, 40, .inl kf)), (qm4, .inl (cI, 40, .inl kl)), (qm5, .inl (cL, 40, .inr (.inl ku)))] s.heap := hP
  have hl := lv_entry ([.ref qm, .int p0, .int p1]) (n := 3) (Nat.le_of_ble_eq_true rfl)
  rw [lg_entry_eq]
  generalize (lg_sl ([.ref qm, .int p0, .int p1]) ++ List.replicate (3 - (lg_sl ([.ref qm, .int p0, .int p1])).length) Slot.unset).toArray = ls at hl ⊢
  have hl : lv_has ls 3 [(0, .ref qm), (1, .int p0), (2, .int p1)] := hl
  have hf28 := hts (.fieldLink RX1 28 "TempoMaps$Marks" "size" "I") (by decide +kernel)
  have hf9 := hts (.fieldLink RX1 9 "TempoMaps$Marks" "ticks" "[I") (by decide +kernel)
  have hf15 := hts (.fieldLink RX1 15 "TempoMaps$Marks" "spans" "[I") (by decide +kernel)
  have hf18 := hts (.fieldLink RX1 18 "TempoMaps$Marks" "firstPaces" "[I") (by decide +kernel)
  have hf21 := hts (.fieldLink RX1 21 "TempoMaps$Marks" "lastPaces" "[I") (by decide +kernel)
  have hiX1 : ∀ w ∈ wsX10, w ∈ wsX1_tell := by decide +kernel
  have zim1 : ((-1 : Int32)).toInt = -1 := by decide
  have zi0 : ((0 : Int32)).toInt = 0 := by decide
  have zi1 : ((1 : Int32)).toInt = 1 := by decide
  refine w_h (A := A) hP (fun H locs hP hS => ?_)
  have hn40 := hOm.1
  have hrg := hOm.2.1
  refine lv_iload_n hx hb dX1_tell_0 rfl (lv_at hl 1 rfl) ?_
  refine lv_if_lt (tgt := 12) hx hb dX1_tell_1 (by decide) (fun c1 => ?_) (fun c1 => ?_)
  · have k1 : (p0.toInt : Int) < 0 := i_lt rfl (show ((0 : Int32)).toInt = 0 by decide) c1
    refine lv_iconst (v := (-1)) hx hb dX1_tell_12 (by decide) ?_
    exact W.iret (v := (-1)) hx hb hr (fun t ht hW => ⟨⟨(-1), (), rfl, (by (try dsimp only); exact (Or.inl ⟨by omega, by omega⟩)), by rw [ht]; exact hP, hD⟩, hS.F ht⟩) hS.2.2 dX1_tell_13
  · have k1 : (0 : Int) ≤ p0.toInt := i_nlt rfl (show ((0 : Int32)).toInt = 0 by decide) c1
    refine lv_iload_n hx hb dX1_tell_4 rfl (lv_at hl 1 rfl) ?_
    refine lv_aload_n hx hb dX1_tell_5 rfl (lv_at hl 0 rfl) ?_
    refine va_get (D := G) (ci := 1) (v := .int zm) (C := RX1) (T := TX1) (N := 6) hx hb hts hiX1 hown hK hP 0 rfl rfl 5 (by decide) hf28 (fun _ h9 => h9) rfl dX1_tell_6 ?_
    refine lv_icmp_lt (tgt := 14) hx hb dX1_tell_9 (by decide) (fun c9 => ?_) (fun c9 => ?_)
    · have k9 : (p0.toInt : Int) < zm.toInt := i_lt rfl rfl c9
      refine lv_iload_n hx hb dX1_tell_14 rfl (lv_at hl 2 rfl) ?_
      by_cases c15 : p1.toInt < 0 ∨ 3 < p1.toInt
      · refine lv_tableOut (tgt := 80) hx hb dX1_tell_15 c15 (by decide) ?_
        refine lv_aload_n hx hb dX1_tell_80 rfl (lv_at hl 0 rfl) ?_
        refine va_get (D := G) (ci := 1) (v := .ref qm2) (C := RX1) (T := TX1) (N := 6) hx hb hts hiX1 hown hK hP 0 rfl rfl 1 (by decide) hf15 (fun _ h9 => h9) rfl dX1_tell_81 ?_
        refine lv_iload_n hx hb dX1_tell_84 rfl (lv_at hl 1 rfl) ?_
        refine va_iald hx hb hK hP 2 0 rfl rfl (vi_in rfl (by omega) (by omega)) dX1_tell_85 ?_
        refine lv_topi (fun x85 ex85 => ?_)
        have ex85 : x85 = ks p0.toInt.toNat := by rw [ex85]; exact congrArg _ (cl_nat rfl (by omega))
        have tx85 : x85.toInt = (ks p0.toInt.toNat).toInt := by rw [ex85]
        have hrg_x85 := hrg p0.toInt.toNat (by omega)
        exact W.iret (v := x85) hx hb hr (fun t ht hW => ⟨⟨x85, (), rfl, (by (try dsimp only); exact (Or.inr ⟨by omega, by omega, by unfold tellV; rw [if_neg (by omega), if_neg (by omega), if_neg (by omega), if_neg (by omega)]; omega⟩)), by rw [ht]; exact hP, hD⟩, hS.F ht⟩) hS.2.2 dX1_tell_86
      · have d15 : p1.toInt = 0 ∨ p1.toInt = 1 ∨ p1.toInt = 2 ∨ p1.toInt = 3 := by omega
        rcases d15 with d15 | d15 | d15 | d15
        · refine lv_tableIn (off := 29) (tgt := 44) hx hb dX1_tell_15 (by omega) (by omega) (by rw [d15]; rfl) (by decide) ?_
          refine lv_aload_n hx hb dX1_tell_44 rfl (lv_at hl 0 rfl) ?_
          refine va_get (D := G) (ci := 1) (v := .ref qm1) (C := RX1) (T := TX1) (N := 6) hx hb hts hiX1 hown hK hP 0 rfl rfl 0 (by decide) hf9 (fun _ h9 => h9) rfl dX1_tell_45 ?_
          refine lv_iload_n hx hb dX1_tell_48 rfl (lv_at hl 1 rfl) ?_
          refine va_iald hx hb hK hP 1 0 rfl rfl (vi_in rfl (by omega) (by omega)) dX1_tell_49 ?_
          refine lv_topi (fun x49 ex49 => ?_)
          have ex49 : x49 = kt p0.toInt.toNat := by rw [ex49]; exact congrArg _ (cl_nat rfl (by omega))
          have tx49 : x49.toInt = (kt p0.toInt.toNat).toInt := by rw [ex49]
          have hrg_x49 := hrg p0.toInt.toNat (by omega)
          exact W.iret (v := x49) hx hb hr (fun t ht hW => ⟨⟨x49, (), rfl, (by (try dsimp only); exact (Or.inr ⟨by omega, by omega, by unfold tellV; rw [d15, if_pos rfl]; omega⟩)), by rw [ht]; exact hP, hD⟩, hS.F ht⟩) hS.2.2 dX1_tell_50
        · refine lv_tableIn (off := 36) (tgt := 51) hx hb dX1_tell_15 (by omega) (by omega) (by rw [d15]; rfl) (by decide) ?_
          refine lv_aload_n hx hb dX1_tell_51 rfl (lv_at hl 0 rfl) ?_
          refine va_get (D := G) (ci := 1) (v := .ref qm2) (C := RX1) (T := TX1) (N := 6) hx hb hts hiX1 hown hK hP 0 rfl rfl 1 (by decide) hf15 (fun _ h9 => h9) rfl dX1_tell_52 ?_
          refine lv_iload_n hx hb dX1_tell_55 rfl (lv_at hl 1 rfl) ?_
          refine va_iald hx hb hK hP 2 0 rfl rfl (vi_in rfl (by omega) (by omega)) dX1_tell_56 ?_
          refine lv_topi (fun x56 ex56 => ?_)
          have ex56 : x56 = ks p0.toInt.toNat := by rw [ex56]; exact congrArg _ (cl_nat rfl (by omega))
          have tx56 : x56.toInt = (ks p0.toInt.toNat).toInt := by rw [ex56]
          have hrg_x56 := hrg p0.toInt.toNat (by omega)
          refine lv_if_le (tgt := 64) hx hb dX1_tell_57 (by decide) (fun c57 => ?_) (fun c57 => ?_)
          · have k57 : (x56.toInt : Int) ≤ 0 := i_le rfl (show ((0 : Int32)).toInt = 0 by decide) c57
            refine lv_iconst (v := 0) hx hb dX1_tell_64 (by decide) ?_
            exact W.iret (v := 0) hx hb hr (fun t ht hW => ⟨⟨0, (), rfl, (by (try dsimp only); exact (Or.inr ⟨by omega, by omega, by unfold tellV; rw [d15, if_neg (by omega), if_pos rfl]; (first | rw [if_pos (by omega)] | rw [if_neg (by omega)]); omega⟩)), by rw [ht]; exact hP, hD⟩, hS.F ht⟩) hS.2.2 dX1_tell_65
          · have k57 : (0 : Int) < x56.toInt := i_nle rfl (show ((0 : Int32)).toInt = 0 by decide) c57
            refine lv_iconst (v := 1) hx hb dX1_tell_60 (by decide) ?_
            refine lv_goto (tgt := 65) hx hb dX1_tell_61 (by decide) ?_
            exact W.iret (v := 1) hx hb hr (fun t ht hW => ⟨⟨1, (), rfl, (by (try dsimp only); exact (Or.inr ⟨by omega, by omega, by unfold tellV; rw [d15, if_neg (by omega), if_pos rfl]; (first | rw [if_pos (by omega)] | rw [if_neg (by omega)]); omega⟩)), by rw [ht]; exact hP, hD⟩, hS.F ht⟩) hS.2.2 dX1_tell_65
        · refine lv_tableIn (off := 51) (tgt := 66) hx hb dX1_tell_15 (by omega) (by omega) (by rw [d15]; rfl) (by decide) ?_
          refine lv_aload_n hx hb dX1_tell_66 rfl (lv_at hl 0 rfl) ?_
          refine va_get (D := G) (ci := 1) (v := .ref qm3) (C := RX1) (T := TX1) (N := 6) hx hb hts hiX1 hown hK hP 0 rfl rfl 2 (by decide) hf18 (fun _ h9 => h9) rfl dX1_tell_67 ?_
          refine lv_iload_n hx hb dX1_tell_70 rfl (lv_at hl 1 rfl) ?_
          refine va_iald hx hb hK hP 3 0 rfl rfl (vi_in rfl (by omega) (by omega)) dX1_tell_71 ?_
          refine lv_topi (fun x71 ex71 => ?_)
          have ex71 : x71 = kf p0.toInt.toNat := by rw [ex71]; exact congrArg _ (cl_nat rfl (by omega))
          have tx71 : x71.toInt = (kf p0.toInt.toNat).toInt := by rw [ex71]
          have hrg_x71 := hrg p0.toInt.toNat (by omega)
          exact W.iret (v := x71) hx hb hr (fun t ht hW => ⟨⟨x71, (), rfl, (by (try dsimp only); exact (Or.inr ⟨by omega, by omega, by unfold tellV; rw [d15, if_neg (by omega), if_neg (by omega), if_pos rfl]; omega⟩)), by rw [ht]; exact hP, hD⟩, hS.F ht⟩) hS.2.2 dX1_tell_72
        · refine lv_tableIn (off := 58) (tgt := 73) hx hb dX1_tell_15 (by omega) (by omega) (by rw [d15]; rfl) (by decide) ?_
          refine lv_aload_n hx hb dX1_tell_73 rfl (lv_at hl 0 rfl) ?_
          refine va_get (D := G) (ci := 1) (v := .ref qm4) (C := RX1) (T := TX1) (N := 6) hx hb hts hiX1 hown hK hP 0 rfl rfl 3 (by decide) hf21 (fun _ h9 => h9) rfl dX1_tell_74 ?_
          refine lv_iload_n hx hb dX1_tell_77 rfl (lv_at hl 1 rfl) ?_
          refine va_iald hx hb hK hP 4 0 rfl rfl (vi_in rfl (by omega) (by omega)) dX1_tell_78 ?_
          refine lv_topi (fun x78 ex78 => ?_)
          have ex78 : x78 = kl p0.toInt.toNat := by rw [ex78]; exact congrArg _ (cl_nat rfl (by omega))
          have tx78 : x78.toInt = (kl p0.toInt.toNat).toInt := by rw [ex78]
          have hrg_x78 := hrg p0.toInt.toNat (by omega)
          exact W.iret (v := x78) hx hb hr (fun t ht hW => ⟨⟨x78, (), rfl, (by (try dsimp only); exact (Or.inr ⟨by omega, by omega, by unfold tellV; rw [d15, if_neg (by omega), if_neg (by omega), if_neg (by omega), if_pos rfl]; omega⟩)), by rw [ht]; exact hP, hD⟩, hS.F ht⟩) hS.2.2 dX1_tell_79
    · have k9 : (zm.toInt : Int) ≤ p0.toInt := i_nlt rfl rfl c9
      refine lv_iconst (v := (-1)) hx hb dX1_tell_12 (by decide) ?_
      exact W.iret (v := (-1)) hx hb hr (fun t ht hW => ⟨⟨(-1), (), rfl, (by (try dsimp only); exact (Or.inl ⟨by omega, by omega⟩)), by rw [ht]; exact hP, hD⟩, hS.F ht⟩) hS.2.2 dX1_tell_13
set_option maxHeartbeats 1000000 in
set_option maxRecDepth 100000 in
theorem ct_X1_copyRow (l : Launch) (G : va_G) (cI cL : ClassId) (sz : Nat) (qm : Nat) (qm1 : Nat) (qm2 : Nat) (qm3 : Nat) (qm4 : Nat) (qm5 : Nat) (zm : Int32) (kt : Nat → Int32) (ks : Nat → Int32) (kf : Nat → Int32) (kl : Nat → Int32) (ku : Nat → Int64) (p0 : Int32) (p1 : Int32) (hp0 : 0 ≤ p0.toInt ∧ p0.toInt < 40) (hp1 : 0 ≤ p1.toInt ∧ p1.toInt < 40) : Met l yX1_copyRow wsX1_copyRow ({ frames := 0, cells := 0, slots := 0, locals := 0 }) (va_Pc [.ref qm, .int p0, .int p1] (pre0 G cI cL [(qm, .inr (1, [.ref qm1, .ref qm2, .ref qm3, .ref qm4, .ref qm5, .int zm])), (qm1, .inl (cI, 40, .inl kt)), (qm2, .inl (cI, 40, .inl ks)), (qm3, .inl (cI, 40, .inl kf)), (qm4, .inl (cI, 40, .inl kl)), (qm5, .inl (cL, 40, .inr (.inl ku)))] sz)) (va_Qv (fun (u : (Nat → Int32) × (Nat → Int32) × (Nat → Int32) × (Nat → Int32)) => u.1 = upd kt p1.toInt.toNat (kt p0.toInt.toNat) ∧ u.2.1 = upd ks p1.toInt.toNat (ks p0.toInt.toNat) ∧ u.2.2.1 = upd kf p1.toInt.toNat (kf p0.toInt.toNat) ∧ u.2.2.2 = upd kl p1.toInt.toNat (kl p0.toInt.toNat)) (fun (u : (Nat → Int32) × (Nat → Int32) × (Nat → Int32) × (Nat → Int32)) t => va_P G vwCl [(qm, .inr (1, [.ref qm1, .ref qm2, .ref qm3, .ref qm4, .ref qm5, .int zm])), (qm1, .inl (cI, 40, .inl (u.1))), (qm2, .inl (cI, 40, .inl (u.2.1))), (qm3, .inl (cI, 40, .inl (u.2.2.1))), (qm4, .inl (cI, 40, .inl (u.2.2.2))), (qm5, .inl (cL, 40, .inr (.inl ku)))] t.heap ∧ va_D (va_A [(qm, .inr (1, [.ref qm1, .ref qm2, .ref qm3, .ref qm4, .ref qm5, .int zm])), (qm1, .inl (cI, 40, .inl kt)), (qm2, .inl (cI, 40, .inl ks)), (qm3, .inl (cI, 40, .inl kf)), (qm4, .inl (cI, 40, .inl kl)), (qm5, .inl (cL, 40, .inr (.inl ku)))] sz) [(qm, .inr (1, [.ref qm1, .ref qm2, .ref qm3, .ref qm4, .ref qm5, .int zm])), (qm1, .inl (cI, 40, .inl (u.1))), (qm2, .inl (cI, 40, .inl (u.2.1))), (qm3, .inl (cI, 40, .inl (u.2.2.1))), (qm4, .inl (cI, 40, .inl (u.2.2.2))), (qm5, .inl (cL, 40, .inr (.inl ku)))]) (va_A [(qm, .inr (1, [.ref qm1, .ref qm2, .ref qm3, .ref qm4, .ref qm5, .int zm])), (qm1, .inl (cI, 40, .inl kt)), (qm2, .inl (cI, 40, .inl ks)), (qm3, .inl (cI, 40, .inl kf)), (qm4, .inl (cI, 40, .inl kl)), (qm5, .inl (cL, 40, .inr (.inl ku)))] sz)) 0 0 (va_A [(qm, .inr (1, [.ref qm1, .ref qm2, .ref qm3, .ref qm4, .ref qm5, .int zm])), (qm1, .inl (cI, 40, .inl kt)), (qm2, .inl (cI, 40, .inl ks)), (qm3, .inl (cI, 40, .inl kf)), (qm4, .inl (cI, 40, .inl kl)), (qm5, .inl (cL, 40, .inr (.inl ku)))] sz) := by
  refine Met.ofW (cc := cX1_copyRow) (maxL := 3) (ret := none) (by decide) rfl ?_
  intro p e s m args below meth c s₁ B hml hv
  obtain ⟨rfl, hsz, hP, hK, hD0, hN⟩ := hv
  have hx := B.exec
  have hb := B.bytes
  have hr := B.returns
  have hts := atoms_spec (ws := wsX1_copyRow) B.pre
  have hown : s.vm.findClass RX1 = some m.cls := findClass_of_methodNamed B.named
  have hlocks := B.notSynchronized
  subst hsz
  have hD := hD0.self (sz := s.heap.size)
  generalize hAe : va_A [(qm, .inr (1, [.ref qm1, .ref qm2, .ref qm3, .ref qm4, .ref qm5, .int zm])), (qm1, .inl (cI, 40, .inl kt)), (qm2, .inl (cI, 40, .inl ks)), (qm3, .inl (cI, 40, .inl kf)), (qm4, .inl (cI, 40, .inl kl)), (qm5, .inl (cL, 40, .inr (.inl ku)))] s.heap.size = A at hD ⊢
  have hA : ∀ q : Nat, s.heap.size ≤ q → A q := fun q h => by rw [← hAe]; exact Or.inr h
  have hP : va_P G vwCl [(qm, .inr (1, [.ref qm1, .ref qm2, .ref qm3, .ref qm4, .ref qm5, .int zm])), (qm1, .inl (cI, 40, .inl kt)), (qm2, .inl (cI, 40, .inl ks)), (qm3, .inl (cI, 40, .inl kf)), (qm4, .inl (cI, 40, .inl kl)), (qm5, .inl (cL, 40, .inr (.inl ku)))] s.heap := hP
  have hl := lv_entry ([.ref qm, .int p0, .int p1]) (n := 3) (Nat.le_of_ble_eq_true rfl)
  rw [lg_entry_eq]
  generalize (lg_sl ([.ref qm, .int p0, .int p1]) ++ List.replicate (3 - (lg_sl ([.ref qm, .int p0, .int p1])).length) Slot.unset).toArray = ls at hl ⊢
  have hl : lv_has ls 3 [(0, .ref qm), (1, .int p0), (2, .int p1)] := hl
  have hf9 := hts (.fieldLink RX1 9 "TempoMaps$Marks" "ticks" "[I") (by decide +kernel)
  have hf15 := hts (.fieldLink RX1 15 "TempoMaps$Marks" "spans" "[I") (by decide +kernel)
  have hf18 := hts (.fieldLink RX1 18 "TempoMaps$Marks" "firstPaces" "[I") (by decide +kernel)
  have hf21 := hts (.fieldLink RX1 21 "TempoMaps$Marks" "lastPaces" "[I") (by decide +kernel)
  have hiX1 : ∀ w ∈ wsX10, w ∈ wsX1_copyRow := by decide +kernel
  refine w_h (A := A) hP (fun H locs hP hS => ?_)
  refine lv_aload_n hx hb dX1_copyRow_0 rfl (lv_at hl 0 rfl) ?_
  refine va_get (D := G) (ci := 1) (v := .ref qm1) (C := RX1) (T := TX1) (N := 6) hx hb hts hiX1 hown hK hP 0 rfl rfl 0 (by decide) hf9 (fun _ h9 => h9) rfl dX1_copyRow_1 ?_
  refine lv_iload_n hx hb dX1_copyRow_4 rfl (lv_at hl 2 rfl) ?_
  refine lv_aload_n hx hb dX1_copyRow_5 rfl (lv_at hl 0 rfl) ?_
  refine va_get (D := G) (ci := 1) (v := .ref qm1) (C := RX1) (T := TX1) (N := 6) hx hb hts hiX1 hown hK hP 0 rfl rfl 0 (by decide) hf9 (fun _ h9 => h9) rfl dX1_copyRow_6 ?_
  refine lv_iload_n hx hb dX1_copyRow_9 rfl (lv_at hl 1 rfl) ?_
  refine va_iald hx hb hK hP 1 0 rfl rfl (vi_in rfl (by omega) (by omega)) dX1_copyRow_10 ?_
  refine lv_topi (fun x10 ex10 => ?_)
  have ex10 : x10 = kt p0.toInt.toNat := by rw [ex10]; exact congrArg _ (cl_nat rfl (by omega))
  have tx10 : x10.toInt = (kt p0.toInt.toNat).toInt := by rw [ex10]
  refine va_iast hx hb hK hP hD hS 1 0 rfl rfl (vi_in rfl (by omega) (by omega)) dX1_copyRow_11 (fun H locs hP hD hS => ?_)
  rw [cl_nat rfl (show p1.toInt = ((p1.toInt.toNat : Nat) : Int) by omega)] at hP hD
  have hP : va_P G vwCl [(qm, .inr (1, [.ref qm1, .ref qm2, .ref qm3, .ref qm4, .ref qm5, .int zm])), (qm1, .inl (cI, 40, .inl (upd kt p1.toInt.toNat x10))), (qm2, .inl (cI, 40, .inl ks)), (qm3, .inl (cI, 40, .inl kf)), (qm4, .inl (cI, 40, .inl kl)), (qm5, .inl (cL, 40, .inr (.inl ku)))] H := hP
  have hD : va_D A [(qm, .inr (1, [.ref qm1, .ref qm2, .ref qm3, .ref qm4, .ref qm5, .int zm])), (qm1, .inl (cI, 40, .inl (upd kt p1.toInt.toNat x10))), (qm2, .inl (cI, 40, .inl ks)), (qm3, .inl (cI, 40, .inl kf)), (qm4, .inl (cI, 40, .inl kl)), (qm5, .inl (cL, 40, .inr (.inl ku)))] := hD
  refine lv_aload_n hx hb dX1_copyRow_12 rfl (lv_at hl 0 rfl) ?_
  refine va_get (D := G) (ci := 1) (v := .ref qm2) (C := RX1) (T := TX1) (N := 6) hx hb hts hiX1 hown hK hP 0 rfl rfl 1 (by decide) hf15 (fun _ h9 => h9) rfl dX1_copyRow_13 ?_
  refine lv_iload_n hx hb dX1_copyRow_16 rfl (lv_at hl 2 rfl) ?_
  refine lv_aload_n hx hb dX1_copyRow_17 rfl (lv_at hl 0 rfl) ?_
  refine va_get (D := G) (ci := 1) (v := .ref qm2) (C := RX1) (T := TX1) (N := 6) hx hb hts hiX1 hown hK hP 0 rfl rfl 1 (by decide) hf15 (fun _ h9 => h9) rfl dX1_copyRow_18 ?_
  refine lv_iload_n hx hb dX1_copyRow_21 rfl (lv_at hl 1 rfl) ?_
  refine va_iald hx hb hK hP 2 0 rfl rfl (vi_in rfl (by omega) (by omega)) dX1_copyRow_22 ?_
  refine lv_topi (fun x22 ex22 => ?_)
  have ex22 : x22 = ks p0.toInt.toNat := by rw [ex22]; exact congrArg _ (cl_nat rfl (by omega))
  have tx22 : x22.toInt = (ks p0.toInt.toNat).toInt := by rw [ex22]
  refine va_iast hx hb hK hP hD hS 2 0 rfl rfl (vi_in rfl (by omega) (by omega)) dX1_copyRow_23 (fun H locs hP hD hS => ?_)
  rw [cl_nat rfl (show p1.toInt = ((p1.toInt.toNat : Nat) : Int) by omega)] at hP hD
  have hP : va_P G vwCl [(qm, .inr (1, [.ref qm1, .ref qm2, .ref qm3, .ref qm4, .ref qm5, .int zm])), (qm1, .inl (cI, 40, .inl (upd kt p1.toInt.toNat x10))), (qm2, .inl (cI, 40, .inl (upd ks p1.toInt.toNat x22))), (qm3, .inl (cI, 40, .inl kf)), (qm4, .inl (cI, 40, .inl kl)), (qm5, .inl (cL, 40, .inr (.inl ku)))] H := hP
  have hD : va_D A [(qm, .inr (1, [.ref qm1, .ref qm2, .ref qm3, .ref qm4, .ref qm5, .int zm])), (qm1, .inl (cI, 40, .inl (upd kt p1.toInt.toNat x10))), (qm2, .inl (cI, 40, .inl (upd ks p1.toInt.toNat x22))), (qm3, .inl (cI, 40, .inl kf)), (qm4, .inl (cI, 40, .inl kl)), (qm5, .inl (cL, 40, .inr (.inl ku)))] := hD
  refine lv_aload_n hx hb dX1_copyRow_24 rfl (lv_at hl 0 rfl) ?_
  refine va_get (D := G) (ci := 1) (v := .ref qm3) (C := RX1) (T := TX1) (N := 6) hx hb hts hiX1 hown hK hP 0 rfl rfl 2 (by decide) hf18 (fun _ h9 => h9) rfl dX1_copyRow_25 ?_
  refine lv_iload_n hx hb dX1_copyRow_28 rfl (lv_at hl 2 rfl) ?_
  refine lv_aload_n hx hb dX1_copyRow_29 rfl (lv_at hl 0 rfl) ?_
  refine va_get (D := G) (ci := 1) (v := .ref qm3) (C := RX1) (T := TX1) (N := 6) hx hb hts hiX1 hown hK hP 0 rfl rfl 2 (by decide) hf18 (fun _ h9 => h9) rfl dX1_copyRow_30 ?_
  refine lv_iload_n hx hb dX1_copyRow_33 rfl (lv_at hl 1 rfl) ?_
  refine va_iald hx hb hK hP 3 0 rfl rfl (vi_in rfl (by omega) (by omega)) dX1_copyRow_34 ?_
  refine lv_topi (fun x34 ex34 => ?_)
  have ex34 : x34 = kf p0.toInt.toNat := by rw [ex34]; exact congrArg _ (cl_nat rfl (by omega))
  have tx34 : x34.toInt = (kf p0.toInt.toNat).toInt := by rw [ex34]
  refine va_iast hx hb hK hP hD hS 3 0 rfl rfl (vi_in rfl (by omega) (by omega)) dX1_copyRow_35 (fun H locs hP hD hS => ?_)
  rw [cl_nat rfl (show p1.toInt = ((p1.toInt.toNat : Nat) : Int) by omega)] at hP hD
  have hP : va_P G vwCl [(qm, .inr (1, [.ref qm1, .ref qm2, .ref qm3, .ref qm4, .ref qm5, .int zm])), (qm1, .inl (cI, 40, .inl (upd kt p1.toInt.toNat x10))), (qm2, .inl (cI, 40, .inl (upd ks p1.toInt.toNat x22))), (qm3, .inl (cI, 40, .inl (upd kf p1.toInt.toNat x34))), (qm4, .inl (cI, 40, .inl kl)), (qm5, .inl (cL, 40, .inr (.inl ku)))] H := hP
  have hD : va_D A [(qm, .inr (1, [.ref qm1, .ref qm2, .ref qm3, .ref qm4, .ref qm5, .int zm])), (qm1, .inl (cI, 40, .inl (upd kt p1.toInt.toNat x10))), (qm2, .inl (cI, 40, .inl (upd ks p1.toInt.toNat x22))), (qm3, .inl (cI, 40, .inl (upd kf p1.toInt.toNat x34))), (qm4, .inl (cI, 40, .inl kl)), (qm5, .inl (cL, 40, .inr (.inl ku)))] := hD
  refine lv_aload_n hx hb dX1_copyRow_36 rfl (lv_at hl 0 rfl) ?_
  refine va_get (D := G) (ci := 1) (v := .ref qm4) (C := RX1) (T := TX1) (N := 6) hx hb hts hiX1 hown hK hP 0 rfl rfl 3 (by decide) hf21 (fun _ h9 => h9) rfl dX1_copyRow_37 ?_
  refine lv_iload_n hx hb dX1_copyRow_40 rfl (lv_at hl 2 rfl) ?_
  refine lv_aload_n hx hb dX1_copyRow_41 rfl (lv_at hl 0 rfl) ?_
  refine va_get (D := G) (ci := 1) (v := .ref qm4) (C := RX1) (T := TX1) (N := 6) hx hb hts hiX1 hown hK hP 0 rfl rfl 3 (by decide) hf21 (fun _ h9 => h9) rfl dX1_copyRow_42 ?_
  refine lv_iload_n hx hb dX1_copyRow_45 rfl (lv_at hl 1 rfl) ?_
  refine va_iald hx hb hK hP 4 0 rfl rfl (vi_in rfl (by omega) (by omega)) dX1_copyRow_46 ?_
  refine lv_topi (fun x46 ex46 => ?_)
  have ex46 : x46 = kl p0.toInt.toNat := by rw [ex46]; exact congrArg _ (cl_nat rfl (by omega))
  have tx46 : x46.toInt = (kl p0.toInt.toNat).toInt := by rw [ex46]
  refine va_iast hx hb hK hP hD hS 4 0 rfl rfl (vi_in rfl (by omega) (by omega)) dX1_copyRow_47 (fun H locs hP hD hS => ?_)
  rw [cl_nat rfl (show p1.toInt = ((p1.toInt.toNat : Nat) : Int) by omega)] at hP hD
  have hP : va_P G vwCl [(qm, .inr (1, [.ref qm1, .ref qm2, .ref qm3, .ref qm4, .ref qm5, .int zm])), (qm1, .inl (cI, 40, .inl (upd kt p1.toInt.toNat x10))), (qm2, .inl (cI, 40, .inl (upd ks p1.toInt.toNat x22))), (qm3, .inl (cI, 40, .inl (upd kf p1.toInt.toNat x34))), (qm4, .inl (cI, 40, .inl (upd kl p1.toInt.toNat x46))), (qm5, .inl (cL, 40, .inr (.inl ku)))] H := hP
  have hD : va_D A [(qm, .inr (1, [.ref qm1, .ref qm2, .ref qm3, .ref qm4, .ref qm5, .int zm])), (qm1, .inl (cI, 40, .inl (upd kt p1.toInt.toNat x10))), (qm2, .inl (cI, 40, .inl (upd ks p1.toInt.toNat x22))), (qm3, .inl (cI, 40, .inl (upd kf p1.toInt.toNat x34))), (qm4, .inl (cI, 40, .inl (upd kl p1.toInt.toNat x46))), (qm5, .inl (cL, 40, .inr (.inl ku)))] := hD
  exact W.vret hx hb hr (fun t ht hW => ⟨⟨(upd kt p1.toInt.toNat x10, upd ks p1.toInt.toNat x22, upd kf p1.toInt.toNat x34, upd kl p1.toInt.toNat x46), rfl, (by (try dsimp only); exact ⟨by rw [ex10], by rw [ex22], by rw [ex34], by rw [ex46]⟩), by rw [ht]; exact hP, hD⟩, hS.F ht⟩) hS.2.2 dX1_copyRow_48
set_option maxHeartbeats 1000000 in
set_option maxRecDepth 100000 in
theorem ct_X1_openRow (l : Launch) (G : va_G) (cI cL : ClassId) (sz : Nat) (qm : Nat) (qm1 : Nat) (qm2 : Nat) (qm3 : Nat) (qm4 : Nat) (qm5 : Nat) (zm : Int32) (kt : Nat → Int32) (ks : Nat → Int32) (kf : Nat → Int32) (kl : Nat → Int32) (ku : Nat → Int64) (p0 : Int32) (nm : Nat) (hnm : zm.toInt = nm) (hn9 : nm < 40) (hp0 : 0 ≤ p0.toInt ∧ p0.toInt ≤ nm) : Met l yX1_openRow wsX1_openRow ({ frames := 1, cells := 0, slots := 0, locals := 22 }) (va_Pc [.ref qm, .int p0] (pre0 G cI cL [(qm, .inr (1, [.ref qm1, .ref qm2, .ref qm3, .ref qm4, .ref qm5, .int zm])), (qm1, .inl (cI, 40, .inl kt)), (qm2, .inl (cI, 40, .inl ks)), (qm3, .inl (cI, 40, .inl kf)), (qm4, .inl (cI, 40, .inl kl)), (qm5, .inl (cL, 40, .inr (.inl ku)))] sz)) (va_Qv (fun (u : Int32 × (Nat → Int32) × (Nat → Int32) × (Nat → Int32) × (Nat → Int32)) => u.1.toInt = nm + 1 ∧ u.2.1 = shR kt p0.toInt.toNat nm ∧ u.2.2.1 = shR ks p0.toInt.toNat nm ∧ u.2.2.2.1 = shR kf p0.toInt.toNat nm ∧ u.2.2.2.2 = shR kl p0.toInt.toNat nm) (fun (u : Int32 × (Nat → Int32) × (Nat → Int32) × (Nat → Int32) × (Nat → Int32)) t => va_P G vwCl [(qm, .inr (1, [.ref qm1, .ref qm2, .ref qm3, .ref qm4, .ref qm5, .int u.1])), (qm1, .inl (cI, 40, .inl (u.2.1))), (qm2, .inl (cI, 40, .inl (u.2.2.1))), (qm3, .inl (cI, 40, .inl (u.2.2.2.1))), (qm4, .inl (cI, 40, .inl (u.2.2.2.2))), (qm5, .inl (cL, 40, .inr (.inl ku)))] t.heap ∧ va_D (va_A [(qm, .inr (1, [.ref qm1, .ref qm2, .ref qm3, .ref qm4, .ref qm5, .int zm])), (qm1, .inl (cI, 40, .inl kt)), (qm2, .inl (cI, 40, .inl ks)), (qm3, .inl (cI, 40, .inl kf)), (qm4, .inl (cI, 40, .inl kl)), (qm5, .inl (cL, 40, .inr (.inl ku)))] sz) [(qm, .inr (1, [.ref qm1, .ref qm2, .ref qm3, .ref qm4, .ref qm5, .int u.1])), (qm1, .inl (cI, 40, .inl (u.2.1))), (qm2, .inl (cI, 40, .inl (u.2.2.1))), (qm3, .inl (cI, 40, .inl (u.2.2.2.1))), (qm4, .inl (cI, 40, .inl (u.2.2.2.2))), (qm5, .inl (cL, 40, .inr (.inl ku)))]) (va_A [(qm, .inr (1, [.ref qm1, .ref qm2, .ref qm3, .ref qm4, .ref qm5, .int zm])), (qm1, .inl (cI, 40, .inl kt)), (qm2, .inl (cI, 40, .inl ks)), (qm3, .inl (cI, 40, .inl kf)), (qm4, .inl (cI, 40, .inl kl)), (qm5, .inl (cL, 40, .inr (.inl ku)))] sz)) 0 0 (va_A [(qm, .inr (1, [.ref qm1, .ref qm2, .ref qm3, .ref qm4, .ref qm5, .int zm])), (qm1, .inl (cI, 40, .inl kt)), (qm2, .inl (cI, 40, .inl ks)), (qm3, .inl (cI, 40, .inl kf)), (qm4, .inl (cI, 40, .inl kl)), (qm5, .inl (cL, 40, .inr (.inl ku)))] sz) := by
  refine Met.ofW (cc := cX1_openRow) (maxL := 3) (ret := none) (by decide) rfl ?_
  intro p e s m args below meth c s₁ B hml hv
  obtain ⟨rfl, hsz, hP, hK, hD0, hN⟩ := hv
  have hx := B.exec
  have hb := B.bytes
  have hr := B.returns
  have hts := atoms_spec (ws := wsX1_openRow) B.pre
  have hown : s.vm.findClass RX1 = some m.cls := findClass_of_methodNamed B.named
  have hlocks := B.notSynchronized
  subst hsz
  have hD := hD0.self (sz := s.heap.size)
  generalize hAe : va_A [(qm, .inr (1, [.ref qm1, .ref qm2, .ref qm3, .ref qm4, .ref qm5, .int zm])), (qm1, .inl (cI, 40, .inl kt)), (qm2, .inl (cI, 40, .inl ks)), (qm3, .inl (cI, 40, .inl kf)), (qm4, .inl (cI, 40, .inl kl)), (qm5, .inl (cL, 40, .inr (.inl ku)))] s.heap.size = A at hD ⊢
  have hA : ∀ q : Nat, s.heap.size ≤ q → A q := fun q h => by rw [← hAe]; exact Or.inr h
  have hP : va_P G vwCl [(qm, .inr (1, [.ref qm1, .ref qm2, .ref qm3, .ref qm4, .ref qm5, .int zm])), (qm1, .inl (cI, 40, .inl kt)), (qm2, .inl (cI, 40, .inl ks)), (qm3, .inl (cI, 40, .inl kf)), (qm4, .inl (cI, 40, .inl kl)), (qm5, .inl (cL, 40, .inr (.inl ku)))] s.heap := hP
  have hl := lv_entry ([.ref qm, .int p0]) (n := 3) (Nat.le_of_ble_eq_true rfl)
  rw [lg_entry_eq]
  generalize (lg_sl ([.ref qm, .int p0]) ++ List.replicate (3 - (lg_sl ([.ref qm, .int p0])).length) Slot.unset).toArray = ls at hl ⊢
  have hl : lv_has ls 3 [(0, .ref qm), (1, .int p0)] := hl
  have hf28 := hts (.fieldLink RX1 28 "TempoMaps$Marks" "size" "I") (by decide +kernel)
  have hiX1 : ∀ w ∈ wsX10, w ∈ wsX1_openRow := by decide +kernel
  have zim1 : ((-1 : Int32)).toInt = -1 := by decide
  have zi1 : ((1 : Int32)).toInt = 1 := by decide
  refine w_h (A := A) hP (fun H locs hP hS => ?_)
  refine lv_aload_n hx hb dX1_openRow_0 rfl (lv_at hl 0 rfl) ?_
  refine va_get (D := G) (ci := 1) (v := .int zm) (C := RX1) (T := TX1) (N := 6) hx hb hts hiX1 hown hK hP 0 rfl rfl 5 (by decide) hf28 (fun _ h9 => h9) rfl dX1_openRow_1 ?_
  refine lv_istore_n (lv' := [(2, .int zm), (0, .ref qm), (1, .int p0)]) hx hb dX1_openRow_4 rfl hl (by decide) rfl (fun ls hl => ?_)
  refine W_loop5 (fun (x2 : Int32) (yt : Nat → Int32) (ys : Nat → Int32) (yf : Nat → Int32) (yl : Nat → Int32) ls H locs => va_P G vwCl [(qm, .inr (1, [.ref qm1, .ref qm2, .ref qm3, .ref qm4, .ref qm5, .int zm])), (qm1, .inl (cI, 40, .inl yt)), (qm2, .inl (cI, 40, .inl ys)), (qm3, .inl (cI, 40, .inl yf)), (qm4, .inl (cI, 40, .inl yl)), (qm5, .inl (cL, 40, .inr (.inl ku)))] H ∧ va_D A [(qm, .inr (1, [.ref qm1, .ref qm2, .ref qm3, .ref qm4, .ref qm5, .int zm])), (qm1, .inl (cI, 40, .inl yt)), (qm2, .inl (cI, 40, .inl ys)), (qm3, .inl (cI, 40, .inl yf)), (qm4, .inl (cI, 40, .inl yl)), (qm5, .inl (cL, 40, .inr (.inl ku)))] ∧ va_S A s.heap H locs ∧ lv_has ls 3 [(0, .ref qm), (1, .int p0), (2, .int x2)] ∧ (p0.toInt ≤ x2.toInt ∧ x2.toInt ≤ nm) ∧ (yt = shR kt x2.toInt.toNat nm) ∧ (ys = shR ks x2.toInt.toNat nm) ∧ (yf = shR kf x2.toInt.toNat nm) ∧ (yl = shR kl x2.toInt.toNat nm)) (fun (x2 : Int32) (yt : Nat → Int32) (ys : Nat → Int32) (yf : Nat → Int32) (yl : Nat → Int32) => x2.toInt.toNat) (fun x2 yt ys yf yl ls H locs hI ih5 => ?_) zm kt ks kf kl ls _ _ ⟨hP, hD, hS, lv_sub hl [1, 2, 0] rfl, (show p0.toInt ≤ zm.toInt ∧ zm.toInt ≤ nm from by omega), (show kt = shR kt zm.toInt.toNat nm from by rw [show zm.toInt.toNat = nm by omega, shR_n]), (show ks = shR ks zm.toInt.toNat nm from by rw [show zm.toInt.toNat = nm by omega, shR_n]), (show kf = shR kf zm.toInt.toNat nm from by rw [show zm.toInt.toNat = nm by omega, shR_n]), (show kl = shR kl zm.toInt.toNat nm from by rw [show zm.toInt.toNat = nm by omega, shR_n])⟩
  obtain ⟨hP, hD, hS, hl, i1, jt, js, jf, jl⟩ := hI
  refine lv_iload_n hx hb dX1_openRow_5 rfl (lv_at hl 2 rfl) ?_
  refine lv_iload_n hx hb dX1_openRow_6 rfl (lv_at hl 1 rfl) ?_
  refine lv_icmp_le (tgt := 24) hx hb dX1_openRow_7 (by decide) (fun c7 => ?_) (fun c7 => ?_)
  · have k7 : (x2.toInt : Int) ≤ p0.toInt := i_le rfl rfl c7
    refine lv_aload_n hx hb dX1_openRow_24 rfl (lv_at hl 0 rfl) ?_
    refine lv_dup hx hb dX1_openRow_25 rfl ?_
    refine va_get (D := G) (ci := 1) (v := .int zm) (C := RX1) (T := TX1) (N := 6) hx hb hts hiX1 hown hK hP 0 rfl rfl 5 (by decide) hf28 (fun _ h9 => h9) rfl dX1_openRow_26 ?_
    refine lv_iconst (v := 1) hx hb dX1_openRow_29 (by decide) ?_
    refine lv_iadd hx hb dX1_openRow_30 ?_
    refine lv_topi (fun x30 ex30 => ?_)
    have tx30 : x30.toInt = zm.toInt + 1 := by rw [ex30]; exact ti_add rfl (show ((1 : Int32)).toInt = 1 by decide) (by omega) (by omega)
    refine va_put (D := G) (ci := 1) (v := .int x30) (ty := .int) (C := RX1) (T := TX1) (N := 6) hx hb hts hiX1 tyX1 tyX1_ok nmX1 hown hK hP hD hS 0 rfl rfl 5 (by decide) hf28 (fun _ h9 => h9) rfl (by decide +kernel) rfl rfl (Nat.le_of_ble_eq_true rfl) dX1_openRow_31 (fun H locs hP hD hS => ?_)
    have hP : va_P G vwCl [(qm, .inr (1, [.ref qm1, .ref qm2, .ref qm3, .ref qm4, .ref qm5, .int x30])), (qm1, .inl (cI, 40, .inl yt)), (qm2, .inl (cI, 40, .inl ys)), (qm3, .inl (cI, 40, .inl yf)), (qm4, .inl (cI, 40, .inl yl)), (qm5, .inl (cL, 40, .inr (.inl ku)))] H := hP
    have hD : va_D A [(qm, .inr (1, [.ref qm1, .ref qm2, .ref qm3, .ref qm4, .ref qm5, .int x30])), (qm1, .inl (cI, 40, .inl yt)), (qm2, .inl (cI, 40, .inl ys)), (qm3, .inl (cI, 40, .inl yf)), (qm4, .inl (cI, 40, .inl yl)), (qm5, .inl (cL, 40, .inr (.inl ku)))] := hD
    rw [show x2.toInt.toNat = p0.toInt.toNat by omega] at jt js jf jl
    exact W.vret hx hb hr (fun t ht hW => ⟨⟨(x30, yt, ys, yf, yl), rfl, (by (try dsimp only); exact ⟨by omega, jt, js, jf, jl⟩), by rw [ht]; exact hP, hD⟩, hS.F ht⟩) hS.2.2 dX1_openRow_34
  · have k7 : (p0.toInt : Int) < x2.toInt := i_nle rfl rfl c7
    refine lv_aload_n hx hb dX1_openRow_10 rfl (lv_at hl 0 rfl) ?_
    refine lv_iload_n hx hb dX1_openRow_11 rfl (lv_at hl 2 rfl) ?_
    refine lv_iconst (v := 1) hx hb dX1_openRow_12 (by decide) ?_
    refine lv_isub hx hb dX1_openRow_13 ?_
    refine lv_topi (fun x13 ex13 => ?_)
    have tx13 : x13.toInt = x2.toInt - 1 := by rw [ex13]; exact ti_sub rfl (show ((1 : Int32)).toInt = 1 by decide) (by omega) (by omega)
    refine lv_iload_n hx hb dX1_openRow_14 rfl (lv_at hl 2 rfl) ?_
    have hPc := hP.sub (ws' := [(qm, .inr (1, [.ref qm1, .ref qm2, .ref qm3, .ref qm4, .ref qm5, .int zm])), (qm1, .inl (cI, 40, .inl yt)), (qm2, .inl (cI, 40, .inl ys)), (qm3, .inl (cI, 40, .inl yf)), (qm4, .inl (cI, 40, .inl yl)), (qm5, .inl (cL, 40, .inr (.inl ku)))]) [0, 1, 2, 3, 4, 5] rfl
    have hDc := hD.sub (ws' := [(qm, .inr (1, [.ref qm1, .ref qm2, .ref qm3, .ref qm4, .ref qm5, .int zm])), (qm1, .inl (cI, 40, .inl yt)), (qm2, .inl (cI, 40, .inl ys)), (qm3, .inl (cI, 40, .inl yf)), (qm4, .inl (cI, 40, .inl yl)), (qm5, .inl (cL, 40, .inr (.inl ku)))]) [0, 1, 2, 3, 4, 5] (by decide) rfl
    have hcc := (ct_X1_copyRow l G cI cL H.size qm qm1 qm2 qm3 qm4 qm5 zm yt ys yf yl ku x13 x2 (by omega) (by omega))
    refine rw_callv (wr := ([] : va_W)) (va_runV (As := [.int x13, .int x2]) (rest := []) ⟨hx, hb, hml, hown, hts⟩ hcc (cwV 2 hts gX1_openRow_X1_copyRow rfl rfl rfl (by decide +kernel) ⟨Nat.le_of_ble_eq_true rfl, Nat.le_of_ble_eq_true rfl⟩) ⟨pre_blind, va_recv hK hPc (ci := 1) (q0 := 0) rfl rfl, pre_pass hK hN hPc hDc⟩ rfl rfl hl.1 rfl (lv_room (Nat.le_of_ble_eq_true rfl)) dX1_openRow_15 ⟨Nat.le_of_ble_eq_true rfl, Nat.le_of_ble_eq_true rfl⟩) hP hD hS hA [0, 1, 2, 3, 4, 5] [] rfl rfl (by decide) (by decide) (fun u15 H locs hw15 hP hD hS => ?_)
    obtain ⟨kt15, ks15, kf15, kl15⟩ := u15
    have hP : va_P G vwCl [(qm, .inr (1, [.ref qm1, .ref qm2, .ref qm3, .ref qm4, .ref qm5, .int zm])), (qm1, .inl (cI, 40, .inl kt15)), (qm2, .inl (cI, 40, .inl ks15)), (qm3, .inl (cI, 40, .inl kf15)), (qm4, .inl (cI, 40, .inl kl15)), (qm5, .inl (cL, 40, .inr (.inl ku)))] H := hP.sub [0, 1, 2, 3, 4, 5] rfl
    have hD : va_D A [(qm, .inr (1, [.ref qm1, .ref qm2, .ref qm3, .ref qm4, .ref qm5, .int zm])), (qm1, .inl (cI, 40, .inl kt15)), (qm2, .inl (cI, 40, .inl ks15)), (qm3, .inl (cI, 40, .inl kf15)), (qm4, .inl (cI, 40, .inl kl15)), (qm5, .inl (cL, 40, .inr (.inl ku)))] := hD.sub [0, 1, 2, 3, 4, 5] (by decide) rfl
    try dsimp only at hw15
    obtain ⟨x18, ex18⟩ : ∃ y : Int32, y = x2 + (-1) := ⟨_, rfl⟩
    have tx18 : x18.toInt = x2.toInt + (-1) := by rw [ex18]; exact ti_add rfl (by decide) (by omega) (by omega)
    refine lv_iinc (v := x18) (lv' := [(2, .int x18), (0, .ref qm), (1, .int p0)]) hx hb dX1_openRow_18 hl (k := 2) rfl (by rw [ex18]; rfl) (by decide) rfl (fun ls hl => ?_)
    refine lv_goto (tgt := 5) hx hb dX1_openRow_21 (by decide) ?_
    exact ih5 x18 kt15 ks15 kf15 kl15 ls _ _ ⟨hP, hD, hS, lv_sub hl [1, 2, 0] rfl, (show p0.toInt ≤ x18.toInt ∧ x18.toInt ≤ nm from by omega), (show kt15 = shR kt x18.toInt.toNat nm from by rw [hw15.1, jt, show x13.toInt.toNat = x2.toInt.toNat - 1 by omega, shR_st _ (by omega) (by omega), show x18.toInt.toNat = x2.toInt.toNat - 1 by omega]), (show ks15 = shR ks x18.toInt.toNat nm from by rw [hw15.2.1, js, show x13.toInt.toNat = x2.toInt.toNat - 1 by omega, shR_st _ (by omega) (by omega), show x18.toInt.toNat = x2.toInt.toNat - 1 by omega]), (show kf15 = shR kf x18.toInt.toNat nm from by rw [hw15.2.2.1, jf, show x13.toInt.toNat = x2.toInt.toNat - 1 by omega, shR_st _ (by omega) (by omega), show x18.toInt.toNat = x2.toInt.toNat - 1 by omega]), (show kl15 = shR kl x18.toInt.toNat nm from by rw [hw15.2.2.2, jl, show x13.toInt.toNat = x2.toInt.toNat - 1 by omega, shR_st _ (by omega) (by omega), show x18.toInt.toNat = x2.toInt.toNat - 1 by omega])⟩ (show x18.toInt.toNat < x2.toInt.toNat from by omega)

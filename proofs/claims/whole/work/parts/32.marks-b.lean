set_option maxHeartbeats 1000000 in
set_option maxRecDepth 100000 in
theorem ct_X1_unitsAheadBy (l : Launch) (G : va_G) (cI cL : ClassId) (sz : Nat) (qm : Nat) (qm1 : Nat) (qm2 : Nat) (qm3 : Nat) (qm4 : Nat) (qm5 : Nat) (zm : Int32) (kt : Nat → Int32) (ks : Nat → Int32) (kf : Nat → Int32) (kl : Nat → Int32) (ku : Nat → Int64) (p0 : Int32) (p1 : Int32) (nm : Nat) (hnm : zm.toInt = nm) (hOm : okM nm kt ks kf kl) (hSr : srt nm kt) (hq0 : -1 ≤ p0.toInt ∧ p0.toInt < nm) (hq1 : 0 ≤ p1.toInt ∧ p1.toInt ≤ 1000000) (hq2 : 0 ≤ p0.toInt → (kt p0.toInt.toNat).toInt ≤ p1.toInt ∧ (ku p0.toInt.toNat).toInt = psum (paceF kt ks kf kl nm) (kt p0.toInt.toNat).toInt.toNat) (hq3 : ∀ k : Nat, k < nm → p0.toInt < k → p1.toInt ≤ (kt k).toInt) : Met l yX1_unitsAheadBy wsX1_unitsAheadBy ({ frames := 2, cells := 0, slots := 0, locals := 62 }) (va_Pc [.ref qm, .int p0, .int p1] (pre0 G cI cL [(qm, .inr (1, [.ref qm1, .ref qm2, .ref qm3, .ref qm4, .ref qm5, .int zm])), (qm1, .inl (cI, 40, .inl kt)), (qm2, .inl (cI, 40, .inl ks)), (qm3, .inl (cI, 40, .inl kf)), (qm4, .inl (cI, 40, .inl kl)), (qm5, .inl (cL, 40, .inr (.inl ku)))] sz)) (va_Ql (fun (r : Int64) (u : Unit) => r.toInt = psum (paceF kt ks kf kl nm) p1.toInt.toNat) (fun (u : Unit) t => va_P G vwCl [(qm, .inr (1, [.ref qm1, .ref qm2, .ref qm3, .ref qm4, .ref qm5, .int zm])), (qm1, .inl (cI, 40, .inl kt)), (qm2, .inl (cI, 40, .inl ks)), (qm3, .inl (cI, 40, .inl kf)), (qm4, .inl (cI, 40, .inl kl)), (qm5, .inl (cL, 40, .inr (.inl ku)))] t.heap ∧ va_D (va_A [(qm, .inr (1, [.ref qm1, .ref qm2, .ref qm3, .ref qm4, .ref qm5, .int zm])), (qm1, .inl (cI, 40, .inl kt)), (qm2, .inl (cI, 40, .inl ks)), (qm3, .inl (cI, 40, .inl kf)), (qm4, .inl (cI, 40, .inl kl)), (qm5, .inl (cL, 40, .inr (.inl ku)))] sz) [(qm, .inr (1, [.ref qm1, .ref qm2, .ref qm3, .ref qm4, .ref qm5, .int zm])), (qm1, .inl (cI, 40, .inl kt)), (qm2, .inl (cI, 40, .inl ks)), (qm3, .inl (cI, 40, .inl kf)), (qm4, .inl (cI, 40, .inl kl)), (qm5, .inl (cL, 40, .inr (.inl ku)))]) (va_A [(qm, .inr (1, [.ref qm1, .ref qm2, .ref qm3, .ref qm4, .ref qm5, .int zm])), (qm1, .inl (cI, 40, .inl kt)), (qm2, .inl (cI, 40, .inl ks)), (qm3, .inl (cI, 40, .inl kf)), (qm4, .inl (cI, 40, .inl kl)), (qm5, .inl (cL, 40, .inr (.inl ku)))] sz)) 0 0 (va_A [(qm, .inr (1, [.ref qm1, .ref qm2, .ref qm3, .ref qm4, .ref qm5, .int zm])), (qm1, .inl (cI, 40, .inl kt)), (qm2, .inl (cI, 40, .inl ks)), (qm3, .inl (cI, 40, .inl kf)), (qm4, .inl (cI, 40, .inl kl)), (qm5, .inl (cL, 40, .inr (.inl ku)))] sz) := by
  refine Met.ofW (cc := cX1_unitsAheadBy) (maxL := 6) (ret := (some .long)) (by decide) rfl ?_
  intro p e s m args below meth c s₁ B hml hv
  obtain ⟨rfl, hsz, hP, hK, hD0, hN⟩ := hv
  have hx := B.exec
  have hb := B.bytes
  have hr := B.returns
  have hts := atoms_spec (ws := wsX1_unitsAheadBy) B.pre
  have hown : s.vm.findClass RX1 = some m.cls := findClass_of_methodNamed B.named
  have hlocks := B.notSynchronized
  subst hsz
  have hD := hD0.self (sz := s.heap.size)
  generalize hAe : va_A [(qm, .inr (1, [.ref qm1, .ref qm2, .ref qm3, .ref qm4, .ref qm5, .int zm])), (qm1, .inl (cI, 40, .inl kt)), (qm2, .inl (cI, 40, .inl ks)), (qm3, .inl (cI, 40, .inl kf)), (qm4, .inl (cI, 40, .inl kl)), (qm5, .inl (cL, 40, .inr (.inl ku)))] s.heap.size = A at hD ⊢
  have hA : ∀ q : Nat, s.heap.size ≤ q → A q := fun q h => by rw [← hAe]; exact Or.inr h
  have hP : va_P G vwCl [(qm, .inr (1, [.ref qm1, .ref qm2, .ref qm3, .ref qm4, .ref qm5, .int zm])), (qm1, .inl (cI, 40, .inl kt)), (qm2, .inl (cI, 40, .inl ks)), (qm3, .inl (cI, 40, .inl kf)), (qm4, .inl (cI, 40, .inl kl)), (qm5, .inl (cL, 40, .inr (.inl ku)))] s.heap := hP
  have hl := lv_entry ([.ref qm, .int p0, .int p1]) (n := 6) (Nat.le_of_ble_eq_true rfl)
  rw [lg_entry_eq]
  generalize (lg_sl ([.ref qm, .int p0, .int p1]) ++ List.replicate (6 - (lg_sl ([.ref qm, .int p0, .int p1])).length) Slot.unset).toArray = ls at hl ⊢
  have hl : lv_has ls 6 [(0, .ref qm), (1, .int p0), (2, .int p1)] := hl
  have hf9 := hts (.fieldLink RX1 9 "TempoMaps$Marks" "ticks" "[I") (by decide +kernel)
  have hf15 := hts (.fieldLink RX1 15 "TempoMaps$Marks" "spans" "[I") (by decide +kernel)
  have hf21 := hts (.fieldLink RX1 21 "TempoMaps$Marks" "lastPaces" "[I") (by decide +kernel)
  have hf18 := hts (.fieldLink RX1 18 "TempoMaps$Marks" "firstPaces" "[I") (by decide +kernel)
  have hf24 := hts (.fieldLink RX1 24 "TempoMaps$Marks" "unitsBefore" "[J") (by decide +kernel)
  have hiX1 : ∀ w ∈ wsX10, w ∈ wsX1_unitsAheadBy := by decide +kernel
  have zl1000 : ((1000 : Int64)).toInt = 1000 := by decide
  refine w_h (A := A) hP (fun H locs hP hS => ?_)
  have hn40 := hOm.1
  have hrg := hOm.2.1
  refine lv_iload_n hx hb dX1_unitsAheadBy_0 rfl (lv_at hl 1 rfl) ?_
  refine lv_if_ge (tgt := 11) hx hb dX1_unitsAheadBy_1 (by decide) (fun c1 => ?_) (fun c1 => ?_)
  · have k1 : (0 : Int) ≤ p0.toInt := i_le (show ((0 : Int32)).toInt = 0 by decide) rfl c1
    have q2 := hq2 k1
    have qr := hrg p0.toInt.toNat (by omega)
    have qu := psum_rng (P := (paceF kt ks kf kl nm)) (kt p0.toInt.toNat).toInt.toNat (fun y _ => pace_rng hOm y)
    refine lv_iload_n hx hb dX1_unitsAheadBy_11 rfl (lv_at hl 2 rfl) ?_
    refine lv_aload_n hx hb dX1_unitsAheadBy_12 rfl (lv_at hl 0 rfl) ?_
    refine va_get (D := G) (ci := 1) (v := .ref qm1) (C := RX1) (T := TX1) (N := 6) hx hb hts hiX1 hown hK hP 0 rfl rfl 0 (by decide) hf9 (fun _ h9 => h9) rfl dX1_unitsAheadBy_13 ?_
    refine lv_iload_n hx hb dX1_unitsAheadBy_16 rfl (lv_at hl 1 rfl) ?_
    refine va_iald hx hb hK hP 1 0 rfl rfl (vi_in rfl (by omega) (by omega)) dX1_unitsAheadBy_17 ?_
    refine lv_topi (fun x17 ex17 => ?_)
    have ex17 : x17 = kt p0.toInt.toNat := by rw [ex17]; exact congrArg _ (cl_nat rfl (by omega))
    have tx17 : x17.toInt = (kt p0.toInt.toNat).toInt := by rw [ex17]
    have hrg_x17 := hrg p0.toInt.toNat (by omega)
    refine lv_isub hx hb dX1_unitsAheadBy_18 ?_
    refine lv_topi (fun x18 ex18 => ?_)
    have tx18 : x18.toInt = p1.toInt - x17.toInt := by rw [ex18]; exact ti_sub rfl rfl (by omega) (by omega)
    refine lv_istore_n (lv' := [(3, .int x18), (0, .ref qm), (1, .int p0), (2, .int p1)]) hx hb dX1_unitsAheadBy_19 rfl hl (by decide) rfl (fun ls hl => ?_)
    refine lv_iload_n hx hb dX1_unitsAheadBy_20 rfl (lv_at hl 0 rfl) ?_
    refine lv_aload_n hx hb dX1_unitsAheadBy_21 rfl (lv_at hl 1 rfl) ?_
    refine va_get (D := G) (ci := 1) (v := .ref qm2) (C := RX1) (T := TX1) (N := 6) hx hb hts hiX1 hown hK hP 0 rfl rfl 1 (by decide) hf15 (fun _ h9 => h9) rfl dX1_unitsAheadBy_22 ?_
    refine lv_iload_n hx hb dX1_unitsAheadBy_25 rfl (lv_at hl 2 rfl) ?_
    refine va_iald hx hb hK hP 2 0 rfl rfl (vi_in rfl (by omega) (by omega)) dX1_unitsAheadBy_26 ?_
    refine lv_topi (fun x26 ex26 => ?_)
    have ex26 : x26 = ks p0.toInt.toNat := by rw [ex26]; exact congrArg _ (cl_nat rfl (by omega))
    have tx26 : x26.toInt = (ks p0.toInt.toNat).toInt := by rw [ex26]
    have hrg_x26 := hrg p0.toInt.toNat (by omega)
    refine va_mmin hx hb (by rw [hml]; exact hl.1.symm) hown (hts (.methodLink RX1 63 Lib.Math.min.name) (by decide +kernel)) (hts (.static Lib.Math.min.name) (by decide +kernel)) (hts (.initialized "java/lang/Math") (by decide +kernel)) (hts (.code Lib.Math.min.name Lib.Math.min.code 2 (some .int)) (by decide +kernel)) (Nat.le_of_ble_eq_true rfl) (Nat.le_of_ble_eq_true rfl) (Nat.zero_le _) (Nat.zero_le _) dX1_unitsAheadBy_27 ?_
    refine lv_topi (fun x27 ex27 => ?_)
    have tx27 : x27.toInt = min x18.toInt x26.toInt := by rw [ex27]; exact ti_min rfl rfl
    refine lv_istore (lv' := [(4, .int x27), (3, .int x18), (0, .ref qm), (1, .int p0), (2, .int p1)]) hx hb dX1_unitsAheadBy_30  hl (by decide) rfl (fun ls hl => ?_)
    refine lv_aload_n hx hb dX1_unitsAheadBy_32 rfl (lv_at hl 2 rfl) ?_
    refine va_get (D := G) (ci := 1) (v := .ref qm4) (C := RX1) (T := TX1) (N := 6) hx hb hts hiX1 hown hK hP 0 rfl rfl 3 (by decide) hf21 (fun _ h9 => h9) rfl dX1_unitsAheadBy_33 ?_
    refine lv_iload_n hx hb dX1_unitsAheadBy_36 rfl (lv_at hl 3 rfl) ?_
    refine va_iald hx hb hK hP 4 0 rfl rfl (vi_in rfl (by omega) (by omega)) dX1_unitsAheadBy_37 ?_
    refine lv_topi (fun x37 ex37 => ?_)
    have ex37 : x37 = kl p0.toInt.toNat := by rw [ex37]; exact congrArg _ (cl_nat rfl (by omega))
    have tx37 : x37.toInt = (kl p0.toInt.toNat).toInt := by rw [ex37]
    have hrg_x37 := hrg p0.toInt.toNat (by omega)
    refine lv_aload_n hx hb dX1_unitsAheadBy_38 rfl (lv_at hl 2 rfl) ?_
    refine va_get (D := G) (ci := 1) (v := .ref qm3) (C := RX1) (T := TX1) (N := 6) hx hb hts hiX1 hown hK hP 0 rfl rfl 2 (by decide) hf18 (fun _ h9 => h9) rfl dX1_unitsAheadBy_39 ?_
    refine lv_iload_n hx hb dX1_unitsAheadBy_42 rfl (lv_at hl 3 rfl) ?_
    refine va_iald hx hb hK hP 3 0 rfl rfl (vi_in rfl (by omega) (by omega)) dX1_unitsAheadBy_43 ?_
    refine lv_topi (fun x43 ex43 => ?_)
    have ex43 : x43 = kf p0.toInt.toNat := by rw [ex43]; exact congrArg _ (cl_nat rfl (by omega))
    have tx43 : x43.toInt = (kf p0.toInt.toNat).toInt := by rw [ex43]
    have hrg_x43 := hrg p0.toInt.toNat (by omega)
    refine lv_isub hx hb dX1_unitsAheadBy_44 ?_
    refine lv_topi (fun x44 ex44 => ?_)
    have tx44 : x44.toInt = x37.toInt - x43.toInt := by rw [ex44]; exact ti_sub rfl rfl (by omega) (by omega)
    refine lv_istore (lv' := [(5, .int x44), (4, .int x27), (3, .int x18), (0, .ref qm), (1, .int p0), (2, .int p1)]) hx hb dX1_unitsAheadBy_45  hl (by decide) rfl (fun ls hl => ?_)
    refine lv_aload_n hx hb dX1_unitsAheadBy_47 rfl (lv_at hl 3 rfl) ?_
    refine va_get (D := G) (ci := 1) (v := .ref qm5) (C := RX1) (T := TX1) (N := 6) hx hb hts hiX1 hown hK hP 0 rfl rfl 4 (by decide) hf24 (fun _ h9 => h9) rfl dX1_unitsAheadBy_48 ?_
    refine lv_iload_n hx hb dX1_unitsAheadBy_51 rfl (lv_at hl 4 rfl) ?_
    refine va_lald hx hb hK hP 5 1 rfl rfl (vi_in rfl (by omega) (by omega)) dX1_unitsAheadBy_52 ?_
    refine lv_topl (fun x52 ex52 => ?_)
    have ex52 : x52 = ku p0.toInt.toNat := by rw [ex52]; exact congrArg _ (cl_nat rfl (by omega))
    have tx52 : x52.toInt = (ku p0.toInt.toNat).toInt := by rw [ex52]
    refine lv_aload_n hx hb dX1_unitsAheadBy_53 rfl (lv_at hl 3 rfl) ?_
    refine va_get (D := G) (ci := 1) (v := .ref qm3) (C := RX1) (T := TX1) (N := 6) hx hb hts hiX1 hown hK hP 0 rfl rfl 2 (by decide) hf18 (fun _ h9 => h9) rfl dX1_unitsAheadBy_54 ?_
    refine lv_iload_n hx hb dX1_unitsAheadBy_57 rfl (lv_at hl 4 rfl) ?_
    refine va_iald hx hb hK hP 3 0 rfl rfl (vi_in rfl (by omega) (by omega)) dX1_unitsAheadBy_58 ?_
    refine lv_topi (fun x58 ex58 => ?_)
    have ex58 : x58 = kf p0.toInt.toNat := by rw [ex58]; exact congrArg _ (cl_nat rfl (by omega))
    have tx58 : x58.toInt = (kf p0.toInt.toNat).toInt := by rw [ex58]
    have hrg_x58 := hrg p0.toInt.toNat (by omega)
    refine lv_i2l hx hb dX1_unitsAheadBy_59 rfl ?_
    refine lv_topl (fun x59 ex59 => ?_)
    have tx59 : x59.toInt = x58.toInt := by rw [ex59]; exact tc_i2l rfl
    refine lv_iload hx hb dX1_unitsAheadBy_60 (lv_at hl 1 rfl) ?_
    refine lv_i2l hx hb dX1_unitsAheadBy_62 rfl ?_
    refine lv_topl (fun x62 ex62 => ?_)
    have tx62 : x62.toInt = x27.toInt := by rw [ex62]; exact tc_i2l rfl
    have b63 := mul_bnd (show 0 ≤ x58.toInt ∧ x58.toInt ≤ 1000000 by omega) (show 0 ≤ x27.toInt ∧ x27.toInt ≤ 2000 by omega)
    refine lv_lmul hx hb dX1_unitsAheadBy_63 ?_
    refine lv_topl (fun x63 ex63 => ?_)
    have tx63 : x63.toInt = x58.toInt * x27.toInt := by rw [ex63]; exact tl_mul tx59 tx62 (by omega) (by omega)
    refine lv_ladd hx hb dX1_unitsAheadBy_64 ?_
    refine lv_topl (fun x64 ex64 => ?_)
    have tx64 : x64.toInt = x52.toInt + x63.toInt := by rw [ex64]; exact tl_add rfl rfl (by omega) (by omega)
    refine lv_iload hx hb dX1_unitsAheadBy_65 (lv_at hl 1 rfl) ?_
    refine lv_iload hx hb dX1_unitsAheadBy_67 (lv_at hl 0 rfl) ?_
    refine lv_aload_n hx hb dX1_unitsAheadBy_69 rfl (lv_at hl 3 rfl) ?_
    refine va_get (D := G) (ci := 1) (v := .ref qm2) (C := RX1) (T := TX1) (N := 6) hx hb hts hiX1 hown hK hP 0 rfl rfl 1 (by decide) hf15 (fun _ h9 => h9) rfl dX1_unitsAheadBy_70 ?_
    refine lv_iload_n hx hb dX1_unitsAheadBy_73 rfl (lv_at hl 4 rfl) ?_
    refine va_iald hx hb hK hP 2 0 rfl rfl (vi_in rfl (by omega) (by omega)) dX1_unitsAheadBy_74 ?_
    refine lv_topi (fun x74 ex74 => ?_)
    have ex74 : x74 = ks p0.toInt.toNat := by rw [ex74]; exact congrArg _ (cl_nat rfl (by omega))
    have tx74 : x74.toInt = (ks p0.toInt.toNat).toInt := by rw [ex74]
    have hrg_x74 := hrg p0.toInt.toNat (by omega)
    have hPc := hP.sub (ws' := ([] : va_W)) [] rfl
    have hDc := hD.sub (ws' := ([] : va_W)) [] (by decide) rfl
    have hcc := (ct_X3_sumOfQuotients l G cI cL H.size x27 x44 x74 (by omega) (by omega) (by omega))
    refine ro_calll (va_runSN (As := [.int x27, .int x44, .int x74]) (rest := [.long x64]) ⟨hx, hb, hml, hown, hts⟩ hcc ⟨va_cnB 3 hts gX1_unitsAheadBy_X3_sumOfQuotients_n66 rfl rfl rfl (hN.1.2.2.2) (hts (.initialized RX3) (by decide +kernel)) (by decide +kernel) ⟨Nat.le_of_ble_eq_true rfl, Nat.le_of_ble_eq_true rfl⟩, hts (.static yX3_sumOfQuotients) (by decide +kernel), trivial⟩ ⟨pre_blind, pre_pass hK hN hPc hDc⟩ rfl rfl hl.1 rfl (lv_room (Nat.le_of_ble_eq_true rfl)) dX1_unitsAheadBy_75 ⟨Nat.le_of_ble_eq_true rfl, Nat.le_of_ble_eq_true rfl⟩) hP hD hS hA [] rfl (fun r75 H locs hw75 hP hS => ?_)
    try dsimp only at hw75
    have e44 : x44.toInt = (kl p0.toInt.toNat).toInt - (kf p0.toInt.toNat).toInt := by omega
    have b77 := fs_b (a := x44.toInt) (m := x74.toInt) (A := 1000000) (by omega) x27.toInt.toNat (by omega)
    rw [← hw75] at b77
    refine lv_ladd hx hb dX1_unitsAheadBy_78 ?_
    refine lv_topl (fun x78 ex78 => ?_)
    have tx78 : x78.toInt = x64.toInt + r75.toInt := by rw [ex78]; exact tl_add rfl rfl (by omega) (by omega)
    refine lv_aload_n hx hb dX1_unitsAheadBy_79 rfl (lv_at hl 3 rfl) ?_
    refine va_get (D := G) (ci := 1) (v := .ref qm4) (C := RX1) (T := TX1) (N := 6) hx hb hts hiX1 hown hK hP 0 rfl rfl 3 (by decide) hf21 (fun _ h9 => h9) rfl dX1_unitsAheadBy_80 ?_
    refine lv_iload_n hx hb dX1_unitsAheadBy_83 rfl (lv_at hl 4 rfl) ?_
    refine va_iald hx hb hK hP 4 0 rfl rfl (vi_in rfl (by omega) (by omega)) dX1_unitsAheadBy_84 ?_
    refine lv_topi (fun x84 ex84 => ?_)
    have ex84 : x84 = kl p0.toInt.toNat := by rw [ex84]; exact congrArg _ (cl_nat rfl (by omega))
    have tx84 : x84.toInt = (kl p0.toInt.toNat).toInt := by rw [ex84]
    have hrg_x84 := hrg p0.toInt.toNat (by omega)
    refine lv_i2l hx hb dX1_unitsAheadBy_85 rfl ?_
    refine lv_topl (fun x85 ex85 => ?_)
    have tx85 : x85.toInt = x84.toInt := by rw [ex85]; exact tc_i2l rfl
    refine lv_iload_n hx hb dX1_unitsAheadBy_86 rfl (lv_at hl 2 rfl) ?_
    refine lv_iload hx hb dX1_unitsAheadBy_87 (lv_at hl 1 rfl) ?_
    refine lv_isub hx hb dX1_unitsAheadBy_89 ?_
    refine lv_topi (fun x89 ex89 => ?_)
    have tx89 : x89.toInt = x18.toInt - x27.toInt := by rw [ex89]; exact ti_sub rfl rfl (by omega) (by omega)
    refine lv_i2l hx hb dX1_unitsAheadBy_90 rfl ?_
    refine lv_topl (fun x90 ex90 => ?_)
    have tx90 : x90.toInt = x89.toInt := by rw [ex90]; exact tc_i2l rfl
    have b91 := mul_bnd (show 0 ≤ x84.toInt ∧ x84.toInt ≤ 1000000 by omega) (show 0 ≤ x89.toInt ∧ x89.toInt ≤ 1000000 by omega)
    refine lv_lmul hx hb dX1_unitsAheadBy_91 ?_
    refine lv_topl (fun x91 ex91 => ?_)
    have tx91 : x91.toInt = x84.toInt * x89.toInt := by rw [ex91]; exact tl_mul tx85 tx90 (by omega) (by omega)
    refine lv_ladd hx hb dX1_unitsAheadBy_92 ?_
    refine lv_topl (fun x92 ex92 => ?_)
    have tx92 : x92.toInt = x78.toInt + x91.toInt := by rw [ex92]; exact tl_add rfl rfl (by omega) (by omega)
    have s1 := seg_sum (f := (kf p0.toInt.toNat).toInt) (l := (kl p0.toInt.toNat).toInt) (s := (ks p0.toInt.toNat).toInt) (by omega) (p1.toInt - (kt p0.toInt.toNat).toInt).toNat
    rw [show (((p1.toInt - (kt p0.toInt.toNat).toInt).toNat : Nat) : Int) = x18.toInt by omega, show min x18.toInt (ks p0.toInt.toNat).toInt = x27.toInt by omega] at s1
    have e75 : r75.toInt = fs ((kl p0.toInt.toNat).toInt - (kf p0.toInt.toNat).toInt) 0 (ks p0.toInt.toNat).toInt x27.toInt.toNat := by rw [hw75, e44, tx74]
    have e63 : x63.toInt = (kf p0.toInt.toNat).toInt * x27.toInt := by rw [tx63, tx58]
    have e91 : x91.toInt = (kl p0.toInt.toNat).toInt * (x18.toInt - x27.toInt) := by rw [tx91, tx84, tx89]
    have u1 := uab hOm (j := p0.toInt.toNat) (x := p1.toInt) (by omega) q2.1 (fun k hk h => hq3 k hk (by
      rcases Nat.lt_or_ge p0.toInt.toNat k with q | q
      · omega
      · have := srt_le hSr q (by omega); omega))
    exact W.lret (v := x92) hx hb hr (fun t ht hW => ⟨⟨x92, (), rfl, (by (try dsimp only); exact (by rw [u1, s1, ← q2.2]; omega)), by rw [ht]; exact hP, hD⟩, hS.F ht⟩) hS.2.2 dX1_unitsAheadBy_93
  · have k1 : (p0.toInt : Int) < 0 := i_nle (show ((0 : Int32)).toInt = 0 by decide) rfl c1
    refine lv_ldc2 (v := 1000) hx hb hown (hts (.constantLong RX1 61 1000) (by decide +kernel)) dX1_unitsAheadBy_4 ?_
    refine lv_iload_n hx hb dX1_unitsAheadBy_7 rfl (lv_at hl 2 rfl) ?_
    refine lv_i2l hx hb dX1_unitsAheadBy_8 rfl ?_
    refine lv_topl (fun x8 ex8 => ?_)
    have tx8 : x8.toInt = p1.toInt := by rw [ex8]; exact tc_i2l rfl
    refine lv_lmul hx hb dX1_unitsAheadBy_9 ?_
    refine lv_topl (fun x9 ex9 => ?_)
    have tx9 : x9.toInt = 1000 * p1.toInt := by rw [ex9]; exact tl_mul (show ((1000 : Int64)).toInt = 1000 by decide) tx8 (by omega) (by omega)
    exact W.lret (v := x9) hx hb hr (fun t ht hW => ⟨⟨x9, (), rfl, (by (try dsimp only); exact (by rw [uab0 hq1.1 (fun k hk => hq3 k hk (by omega))]; omega)), by rw [ht]; exact hP, hD⟩, hS.F ht⟩) hS.2.2 dX1_unitsAheadBy_10
set_option maxHeartbeats 1000000 in
set_option maxRecDepth 100000 in
theorem ct_X1_renewUnitsBefore (l : Launch) (G : va_G) (cI cL : ClassId) (sz : Nat) (qm : Nat) (qm1 : Nat) (qm2 : Nat) (qm3 : Nat) (qm4 : Nat) (qm5 : Nat) (zm : Int32) (kt : Nat → Int32) (ks : Nat → Int32) (kf : Nat → Int32) (kl : Nat → Int32) (ku : Nat → Int64) (p0 : Int32) (nm : Nat) (hnm : zm.toInt = nm) (hOm : okM nm kt ks kf kl) (hSr : srt nm kt) (hp0 : 0 ≤ p0.toInt ∧ p0.toInt ≤ nm) (hU0 : ∀ k : Nat, k < nm → (k : Int) < p0.toInt → (ku k).toInt = psum (paceF kt ks kf kl nm) (kt k).toInt.toNat) : Met l yX1_renewUnitsBefore wsX1_renewUnitsBefore ({ frames := 3, cells := 0, slots := 0, locals := 87 }) (va_Pc [.ref qm, .int p0] (pre0 G cI cL [(qm, .inr (1, [.ref qm1, .ref qm2, .ref qm3, .ref qm4, .ref qm5, .int zm])), (qm1, .inl (cI, 40, .inl kt)), (qm2, .inl (cI, 40, .inl ks)), (qm3, .inl (cI, 40, .inl kf)), (qm4, .inl (cI, 40, .inl kl)), (qm5, .inl (cL, 40, .inr (.inl ku)))] sz)) (va_Qv (fun (u : Nat → Int64) => okU nm kt ks kf kl u) (fun (u : Nat → Int64) t => va_P G vwCl [(qm, .inr (1, [.ref qm1, .ref qm2, .ref qm3, .ref qm4, .ref qm5, .int zm])), (qm1, .inl (cI, 40, .inl kt)), (qm2, .inl (cI, 40, .inl ks)), (qm3, .inl (cI, 40, .inl kf)), (qm4, .inl (cI, 40, .inl kl)), (qm5, .inl (cL, 40, .inr (.inl u)))] t.heap ∧ va_D (va_A [(qm, .inr (1, [.ref qm1, .ref qm2, .ref qm3, .ref qm4, .ref qm5, .int zm])), (qm1, .inl (cI, 40, .inl kt)), (qm2, .inl (cI, 40, .inl ks)), (qm3, .inl (cI, 40, .inl kf)), (qm4, .inl (cI, 40, .inl kl)), (qm5, .inl (cL, 40, .inr (.inl ku)))] sz) [(qm, .inr (1, [.ref qm1, .ref qm2, .ref qm3, .ref qm4, .ref qm5, .int zm])), (qm1, .inl (cI, 40, .inl kt)), (qm2, .inl (cI, 40, .inl ks)), (qm3, .inl (cI, 40, .inl kf)), (qm4, .inl (cI, 40, .inl kl)), (qm5, .inl (cL, 40, .inr (.inl u)))]) (va_A [(qm, .inr (1, [.ref qm1, .ref qm2, .ref qm3, .ref qm4, .ref qm5, .int zm])), (qm1, .inl (cI, 40, .inl kt)), (qm2, .inl (cI, 40, .inl ks)), (qm3, .inl (cI, 40, .inl kf)), (qm4, .inl (cI, 40, .inl kl)), (qm5, .inl (cL, 40, .inr (.inl ku)))] sz)) 0 0 (va_A [(qm, .inr (1, [.ref qm1, .ref qm2, .ref qm3, .ref qm4, .ref qm5, .int zm])), (qm1, .inl (cI, 40, .inl kt)), (qm2, .inl (cI, 40, .inl ks)), (qm3, .inl (cI, 40, .inl kf)), (qm4, .inl (cI, 40, .inl kl)), (qm5, .inl (cL, 40, .inr (.inl ku)))] sz) := by
  refine Met.ofW (cc := cX1_renewUnitsBefore) (maxL := 3) (ret := none) (by decide) rfl ?_
  intro p e s m args below meth c s₁ B hml hv
  obtain ⟨rfl, hsz, hP, hK, hD0, hN⟩ := hv
  have hx := B.exec
  have hb := B.bytes
  have hr := B.returns
  have hts := atoms_spec (ws := wsX1_renewUnitsBefore) B.pre
  have hown : s.vm.findClass RX1 = some m.cls := findClass_of_methodNamed B.named
  have hlocks := B.notSynchronized
  subst hsz
  have hD := hD0.self (sz := s.heap.size)
  generalize hAe : va_A [(qm, .inr (1, [.ref qm1, .ref qm2, .ref qm3, .ref qm4, .ref qm5, .int zm])), (qm1, .inl (cI, 40, .inl kt)), (qm2, .inl (cI, 40, .inl ks)), (qm3, .inl (cI, 40, .inl kf)), (qm4, .inl (cI, 40, .inl kl)), (qm5, .inl (cL, 40, .inr (.inl ku)))] s.heap.size = A at hD ⊢
  have hA : ∀ q : Nat, s.heap.size ≤ q → A q := fun q h => by rw [← hAe]; exact Or.inr h
  have hP : va_P G vwCl [(qm, .inr (1, [.ref qm1, .ref qm2, .ref qm3, .ref qm4, .ref qm5, .int zm])), (qm1, .inl (cI, 40, .inl kt)), (qm2, .inl (cI, 40, .inl ks)), (qm3, .inl (cI, 40, .inl kf)), (qm4, .inl (cI, 40, .inl kl)), (qm5, .inl (cL, 40, .inr (.inl ku)))] s.heap := hP
  have hl := lv_entry ([.ref qm, .int p0]) (n := 3) (Nat.le_of_ble_eq_true rfl)
  rw [lg_entry_eq]
  generalize (lg_sl ([.ref qm, .int p0]) ++ List.replicate (3 - (lg_sl ([.ref qm, .int p0])).length) Slot.unset).toArray = ls at hl ⊢
  have hl : lv_has ls 3 [(0, .ref qm), (1, .int p0)] := hl
  have hf28 := hts (.fieldLink RX1 28 "TempoMaps$Marks" "size" "I") (by decide +kernel)
  have hf24 := hts (.fieldLink RX1 24 "TempoMaps$Marks" "unitsBefore" "[J") (by decide +kernel)
  have hf9 := hts (.fieldLink RX1 9 "TempoMaps$Marks" "ticks" "[I") (by decide +kernel)
  have hiX1 : ∀ w ∈ wsX10, w ∈ wsX1_renewUnitsBefore := by decide +kernel
  have zi1 : ((1 : Int32)).toInt = 1 := by decide
  refine w_h (A := A) hP (fun H locs hP hS => ?_)
  have hn40 := hOm.1
  have hrg := hOm.2.1
  refine lv_iload_n hx hb dX1_renewUnitsBefore_0 rfl (lv_at hl 1 rfl) ?_
  refine lv_istore_n (lv' := [(2, .int p0), (0, .ref qm), (1, .int p0)]) hx hb dX1_renewUnitsBefore_1 rfl hl (by decide) rfl (fun ls hl => ?_)
  refine W_loop2 (fun (x2 : Int32) (yu : Nat → Int64) ls H locs => va_P G vwCl [(qm, .inr (1, [.ref qm1, .ref qm2, .ref qm3, .ref qm4, .ref qm5, .int zm])), (qm1, .inl (cI, 40, .inl kt)), (qm2, .inl (cI, 40, .inl ks)), (qm3, .inl (cI, 40, .inl kf)), (qm4, .inl (cI, 40, .inl kl)), (qm5, .inl (cL, 40, .inr (.inl yu)))] H ∧ va_D A [(qm, .inr (1, [.ref qm1, .ref qm2, .ref qm3, .ref qm4, .ref qm5, .int zm])), (qm1, .inl (cI, 40, .inl kt)), (qm2, .inl (cI, 40, .inl ks)), (qm3, .inl (cI, 40, .inl kf)), (qm4, .inl (cI, 40, .inl kl)), (qm5, .inl (cL, 40, .inr (.inl yu)))] ∧ va_S A s.heap H locs ∧ lv_has ls 3 [(0, .ref qm), (1, .int p0), (2, .int x2)] ∧ (p0.toInt ≤ x2.toInt ∧ x2.toInt ≤ nm) ∧ (∀ k : Nat, k < nm → (k : Int) < x2.toInt → (yu k).toInt = psum (paceF kt ks kf kl nm) (kt k).toInt.toNat)) (fun (x2 : Int32) (yu : Nat → Int64) => (nm - x2.toInt).toNat) (fun x2 yu ls H locs hI ih2 => ?_) p0 ku ls _ _ ⟨hP, hD, hS, lv_sub hl [1, 2, 0] rfl, (show p0.toInt ≤ p0.toInt ∧ p0.toInt ≤ nm from by omega), (show ∀ k : Nat, k < nm → (k : Int) < p0.toInt → (ku k).toInt = psum (paceF kt ks kf kl nm) (kt k).toInt.toNat from hU0)⟩
  obtain ⟨hP, hD, hS, hl, i1, i2⟩ := hI
  refine lv_iload_n hx hb dX1_renewUnitsBefore_2 rfl (lv_at hl 2 rfl) ?_
  refine lv_aload_n hx hb dX1_renewUnitsBefore_3 rfl (lv_at hl 0 rfl) ?_
  refine va_get (D := G) (ci := 1) (v := .int zm) (C := RX1) (T := TX1) (N := 6) hx hb hts hiX1 hown hK hP 0 rfl rfl 5 (by decide) hf28 (fun _ h9 => h9) rfl dX1_renewUnitsBefore_4 ?_
  refine lv_icmp_ge (tgt := 35) hx hb dX1_renewUnitsBefore_7 (by decide) (fun c7 => ?_) (fun c7 => ?_)
  · have k7 : (zm.toInt : Int) ≤ x2.toInt := i_le rfl rfl c7
    exact W.vret hx hb hr (fun t ht hW => ⟨⟨yu, rfl, (by (try dsimp only); exact (fun k hk => i2 k hk (by omega))), by rw [ht]; exact hP, hD⟩, hS.F ht⟩) hS.2.2 dX1_renewUnitsBefore_35
  · have k7 : (x2.toInt : Int) < zm.toInt := i_nle rfl rfl c7
    refine lv_aload_n hx hb dX1_renewUnitsBefore_10 rfl (lv_at hl 0 rfl) ?_
    refine va_get (D := G) (ci := 1) (v := .ref qm5) (C := RX1) (T := TX1) (N := 6) hx hb hts hiX1 hown hK hP 0 rfl rfl 4 (by decide) hf24 (fun _ h9 => h9) rfl dX1_renewUnitsBefore_11 ?_
    refine lv_iload_n hx hb dX1_renewUnitsBefore_14 rfl (lv_at hl 2 rfl) ?_
    refine lv_aload_n hx hb dX1_renewUnitsBefore_15 rfl (lv_at hl 0 rfl) ?_
    refine lv_iload_n hx hb dX1_renewUnitsBefore_16 rfl (lv_at hl 2 rfl) ?_
    refine lv_iconst (v := 1) hx hb dX1_renewUnitsBefore_17 (by decide) ?_
    refine lv_isub hx hb dX1_renewUnitsBefore_18 ?_
    refine lv_topi (fun x18 ex18 => ?_)
    have tx18 : x18.toInt = x2.toInt - 1 := by rw [ex18]; exact ti_sub rfl (show ((1 : Int32)).toInt = 1 by decide) (by omega) (by omega)
    refine lv_aload_n hx hb dX1_renewUnitsBefore_19 rfl (lv_at hl 0 rfl) ?_
    refine va_get (D := G) (ci := 1) (v := .ref qm1) (C := RX1) (T := TX1) (N := 6) hx hb hts hiX1 hown hK hP 0 rfl rfl 0 (by decide) hf9 (fun _ h9 => h9) rfl dX1_renewUnitsBefore_20 ?_
    refine lv_iload_n hx hb dX1_renewUnitsBefore_23 rfl (lv_at hl 2 rfl) ?_
    refine va_iald hx hb hK hP 1 0 rfl rfl (vi_in rfl (by omega) (by omega)) dX1_renewUnitsBefore_24 ?_
    refine lv_topi (fun x24 ex24 => ?_)
    have ex24 : x24 = kt x2.toInt.toNat := by rw [ex24]; exact congrArg _ (cl_nat rfl (by omega))
    have tx24 : x24.toInt = (kt x2.toInt.toNat).toInt := by rw [ex24]
    have hrg_x24 := hrg x2.toInt.toNat (by omega)
    have hPc := hP.sub (ws' := [(qm, .inr (1, [.ref qm1, .ref qm2, .ref qm3, .ref qm4, .ref qm5, .int zm])), (qm1, .inl (cI, 40, .inl kt)), (qm2, .inl (cI, 40, .inl ks)), (qm3, .inl (cI, 40, .inl kf)), (qm4, .inl (cI, 40, .inl kl)), (qm5, .inl (cL, 40, .inr (.inl yu)))]) [0, 1, 2, 3, 4, 5] rfl
    have hDc := hD.sub (ws' := [(qm, .inr (1, [.ref qm1, .ref qm2, .ref qm3, .ref qm4, .ref qm5, .int zm])), (qm1, .inl (cI, 40, .inl kt)), (qm2, .inl (cI, 40, .inl ks)), (qm3, .inl (cI, 40, .inl kf)), (qm4, .inl (cI, 40, .inl kl)), (qm5, .inl (cL, 40, .inr (.inl yu)))]) [0, 1, 2, 3, 4, 5] (by decide) rfl
    have hcc := (ct_X1_unitsAheadBy l G cI cL H.size qm qm1 qm2 qm3 qm4 qm5 zm kt ks kf kl yu x18 x24 nm hnm hOm hSr (by omega) (by omega) ((fun h => ⟨by have := srt_le hSr (i := x18.toInt.toNat) (j := x2.toInt.toNat) (by omega) (by omega); omega, i2 _ (by omega) (by omega)⟩)) ((fun k hk h => by have := srt_le hSr (i := x2.toInt.toNat) (j := k) (by omega) hk; omega)))
    refine ro_calll (va_runV (As := [.int x18, .int x24]) (rest := [.int x2, .ref qm5]) ⟨hx, hb, hml, hown, hts⟩ hcc (cwV 2 hts gX1_renewUnitsBefore_X1_unitsAheadBy rfl rfl rfl (by decide +kernel) ⟨Nat.le_of_ble_eq_true rfl, Nat.le_of_ble_eq_true rfl⟩) ⟨pre_blind, va_recv hK hPc (ci := 1) (q0 := 0) rfl rfl, pre_pass hK hN hPc hDc⟩ rfl rfl hl.1 rfl (lv_room (Nat.le_of_ble_eq_true rfl)) dX1_renewUnitsBefore_25 ⟨Nat.le_of_ble_eq_true rfl, Nat.le_of_ble_eq_true rfl⟩) hP hD hS hA [0, 1, 2, 3, 4, 5] rfl (fun r25 H locs hw25 hP hS => ?_)
    try dsimp only at hw25
    refine va_last hx hb hK hP hD hS 5 1 rfl rfl (vi_in rfl (by omega) (by omega)) dX1_renewUnitsBefore_28 (fun H locs hP hD hS => ?_)
    rw [cl_nat rfl (show x2.toInt = ((x2.toInt.toNat : Nat) : Int) by omega)] at hP hD
    have hP : va_P G vwCl [(qm, .inr (1, [.ref qm1, .ref qm2, .ref qm3, .ref qm4, .ref qm5, .int zm])), (qm1, .inl (cI, 40, .inl kt)), (qm2, .inl (cI, 40, .inl ks)), (qm3, .inl (cI, 40, .inl kf)), (qm4, .inl (cI, 40, .inl kl)), (qm5, .inl (cL, 40, .inr (.inl (vp_updL yu x2.toInt.toNat r25))))] H := hP
    have hD : va_D A [(qm, .inr (1, [.ref qm1, .ref qm2, .ref qm3, .ref qm4, .ref qm5, .int zm])), (qm1, .inl (cI, 40, .inl kt)), (qm2, .inl (cI, 40, .inl ks)), (qm3, .inl (cI, 40, .inl kf)), (qm4, .inl (cI, 40, .inl kl)), (qm5, .inl (cL, 40, .inr (.inl (vp_updL yu x2.toInt.toNat r25))))] := hD
    obtain ⟨x29, ex29⟩ : ∃ y : Int32, y = x2 + 1 := ⟨_, rfl⟩
    have tx29 : x29.toInt = x2.toInt + 1 := by rw [ex29]; exact ti_add rfl (by decide) (by omega) (by omega)
    refine lv_iinc (v := x29) (lv' := [(2, .int x29), (0, .ref qm), (1, .int p0)]) hx hb dX1_renewUnitsBefore_29 hl (k := 2) rfl (by rw [ex29]; rfl) (by decide) rfl (fun ls hl => ?_)
    refine lv_goto (tgt := 2) hx hb dX1_renewUnitsBefore_32 (by decide) ?_
    exact ih2 x29 (vp_updL yu x2.toInt.toNat r25) ls _ _ ⟨hP, hD, hS, lv_sub hl [1, 2, 0] rfl, (show p0.toInt ≤ x29.toInt ∧ x29.toInt ≤ nm from by omega), (show ∀ k : Nat, k < nm → (k : Int) < x29.toInt → ((vp_updL yu x2.toInt.toNat r25) k).toInt = psum (paceF kt ks kf kl nm) (kt k).toInt.toNat from fun k h1 h2 => (Decidable.em (k = x2.toInt.toNat)).elim (fun e => by rw [e, pk_uLs, hw25, tx24]) (fun e => by rw [pk_uLn e]; exact i2 k h1 (by omega)))⟩ (show (nm - x29.toInt).toNat < (nm - x2.toInt).toNat from by omega)
set_option maxHeartbeats 1000000 in
set_option maxRecDepth 100000 in
theorem ct_X1_unitsOfTick (l : Launch) (G : va_G) (cI cL : ClassId) (sz : Nat) (qm : Nat) (qm1 : Nat) (qm2 : Nat) (qm3 : Nat) (qm4 : Nat) (qm5 : Nat) (zm : Int32) (kt : Nat → Int32) (ks : Nat → Int32) (kf : Nat → Int32) (kl : Nat → Int32) (ku : Nat → Int64) (p0 : Int32) (nm : Nat) (hnm : zm.toInt = nm) (hOm : okM nm kt ks kf kl) (hSr : srt nm kt) (hp0 : -1 ≤ p0.toInt ∧ p0.toInt ≤ 1000000) : Met l yX1_unitsOfTick wsX1_unitsOfTick ({ frames := 1, cells := 0, slots := 0, locals := 22 }) (va_Pc [.ref qm, .int p0] (pre0 G cI cL [(qm, .inr (1, [.ref qm1, .ref qm2, .ref qm3, .ref qm4, .ref qm5, .int zm])), (qm1, .inl (cI, 40, .inl kt)), (qm2, .inl (cI, 40, .inl ks)), (qm3, .inl (cI, 40, .inl kf)), (qm4, .inl (cI, 40, .inl kl)), (qm5, .inl (cL, 40, .inr (.inl ku)))] sz)) (va_Qi (fun (r : Int32) (u : Unit) => r.toInt = paceF kt ks kf kl nm p0.toInt) (fun (u : Unit) t => va_P G vwCl [(qm, .inr (1, [.ref qm1, .ref qm2, .ref qm3, .ref qm4, .ref qm5, .int zm])), (qm1, .inl (cI, 40, .inl kt)), (qm2, .inl (cI, 40, .inl ks)), (qm3, .inl (cI, 40, .inl kf)), (qm4, .inl (cI, 40, .inl kl)), (qm5, .inl (cL, 40, .inr (.inl ku)))] t.heap ∧ va_D (va_A [(qm, .inr (1, [.ref qm1, .ref qm2, .ref qm3, .ref qm4, .ref qm5, .int zm])), (qm1, .inl (cI, 40, .inl kt)), (qm2, .inl (cI, 40, .inl ks)), (qm3, .inl (cI, 40, .inl kf)), (qm4, .inl (cI, 40, .inl kl)), (qm5, .inl (cL, 40, .inr (.inl ku)))] sz) [(qm, .inr (1, [.ref qm1, .ref qm2, .ref qm3, .ref qm4, .ref qm5, .int zm])), (qm1, .inl (cI, 40, .inl kt)), (qm2, .inl (cI, 40, .inl ks)), (qm3, .inl (cI, 40, .inl kf)), (qm4, .inl (cI, 40, .inl kl)), (qm5, .inl (cL, 40, .inr (.inl ku)))]) (va_A [(qm, .inr (1, [.ref qm1, .ref qm2, .ref qm3, .ref qm4, .ref qm5, .int zm])), (qm1, .inl (cI, 40, .inl kt)), (qm2, .inl (cI, 40, .inl ks)), (qm3, .inl (cI, 40, .inl kf)), (qm4, .inl (cI, 40, .inl kl)), (qm5, .inl (cL, 40, .inr (.inl ku)))] sz)) 0 0 (va_A [(qm, .inr (1, [.ref qm1, .ref qm2, .ref qm3, .ref qm4, .ref qm5, .int zm])), (qm1, .inl (cI, 40, .inl kt)), (qm2, .inl (cI, 40, .inl ks)), (qm3, .inl (cI, 40, .inl kf)), (qm4, .inl (cI, 40, .inl kl)), (qm5, .inl (cL, 40, .inr (.inl ku)))] sz) := by
  refine Met.ofW (cc := cX1_unitsOfTick) (maxL := 6) (ret := (some .int)) (by decide) rfl ?_
  intro p e s m args below meth c s₁ B hml hv
  obtain ⟨rfl, hsz, hP, hK, hD0, hN⟩ := hv
  have hx := B.exec
  have hb := B.bytes
  have hr := B.returns
  have hts := atoms_spec (ws := wsX1_unitsOfTick) B.pre
  have hown : s.vm.findClass RX1 = some m.cls := findClass_of_methodNamed B.named
  have hlocks := B.notSynchronized
  subst hsz
  have hD := hD0.self (sz := s.heap.size)
  generalize hAe : va_A [(qm, .inr (1, [.ref qm1, .ref qm2, .ref qm3, .ref qm4, .ref qm5, .int zm])), (qm1, .inl (cI, 40, .inl kt)), (qm2, .inl (cI, 40, .inl ks)), (qm3, .inl (cI, 40, .inl kf)), (qm4, .inl (cI, 40, .inl kl)), (qm5, .inl (cL, 40, .inr (.inl ku)))] s.heap.size = A at hD ⊢
  have hA : ∀ q : Nat, s.heap.size ≤ q → A q := fun q h => by rw [← hAe]; exact Or.inr h
  have hP : va_P G vwCl [(qm, .inr (1, [.ref qm1, .ref qm2, .ref qm3, .ref qm4, .ref qm5, .int zm])), (qm1, .inl (cI, 40, .inl kt)), (qm2, .inl (cI, 40, .inl ks)), (qm3, .inl (cI, 40, .inl kf)), (qm4, .inl (cI, 40, .inl kl)), (qm5, .inl (cL, 40, .inr (.inl ku)))] s.heap := hP
  have hl := lv_entry ([.ref qm, .int p0]) (n := 6) (Nat.le_of_ble_eq_true rfl)
  rw [lg_entry_eq]
  generalize (lg_sl ([.ref qm, .int p0]) ++ List.replicate (6 - (lg_sl ([.ref qm, .int p0])).length) Slot.unset).toArray = ls at hl ⊢
  have hl : lv_has ls 6 [(0, .ref qm), (1, .int p0)] := hl
  have hf9 := hts (.fieldLink RX1 9 "TempoMaps$Marks" "ticks" "[I") (by decide +kernel)
  have hf15 := hts (.fieldLink RX1 15 "TempoMaps$Marks" "spans" "[I") (by decide +kernel)
  have hf21 := hts (.fieldLink RX1 21 "TempoMaps$Marks" "lastPaces" "[I") (by decide +kernel)
  have hf18 := hts (.fieldLink RX1 18 "TempoMaps$Marks" "firstPaces" "[I") (by decide +kernel)
  have hiX1 : ∀ w ∈ wsX10, w ∈ wsX1_unitsOfTick := by decide +kernel
  have zi1 : ((1 : Int32)).toInt = 1 := by decide
  have zi1000 : ((1000 : Int32)).toInt = 1000 := by decide
  refine w_h (A := A) hP (fun H locs hP hS => ?_)
  have hn40 := hOm.1
  have hrg := hOm.2.1
  refine lv_aload_n hx hb dX1_unitsOfTick_0 rfl (lv_at hl 0 rfl) ?_
  refine lv_iload_n hx hb dX1_unitsOfTick_1 rfl (lv_at hl 1 rfl) ?_
  have hPc := hP.sub (ws' := [(qm, .inr (1, [.ref qm1, .ref qm2, .ref qm3, .ref qm4, .ref qm5, .int zm])), (qm1, .inl (cI, 40, .inl kt)), (qm2, .inl (cI, 40, .inl ks)), (qm3, .inl (cI, 40, .inl kf)), (qm4, .inl (cI, 40, .inl kl)), (qm5, .inl (cL, 40, .inr (.inl ku)))]) [0, 1, 2, 3, 4, 5] rfl
  have hDc := hD.sub (ws' := [(qm, .inr (1, [.ref qm1, .ref qm2, .ref qm3, .ref qm4, .ref qm5, .int zm])), (qm1, .inl (cI, 40, .inl kt)), (qm2, .inl (cI, 40, .inl ks)), (qm3, .inl (cI, 40, .inl kf)), (qm4, .inl (cI, 40, .inl kl)), (qm5, .inl (cL, 40, .inr (.inl ku)))]) [0, 1, 2, 3, 4, 5] (by decide) rfl
  have hcc := (ct_X1_placeOf l G cI cL H.size qm qm1 qm2 qm3 qm4 qm5 zm kt ks kf kl ku p0 nm hnm hOm hSr)
  refine ro_calli (va_runV (As := [.int p0]) (rest := []) ⟨hx, hb, hml, hown, hts⟩ hcc (cwV 1 hts gX1_unitsOfTick_X1_placeOf rfl rfl rfl (by decide +kernel) ⟨Nat.le_of_ble_eq_true rfl, Nat.le_of_ble_eq_true rfl⟩) ⟨pre_blind, va_recv hK hPc (ci := 1) (q0 := 0) rfl rfl, pre_pass hK hN hPc hDc⟩ rfl rfl hl.1 rfl (lv_room (Nat.le_of_ble_eq_true rfl)) dX1_unitsOfTick_2 ⟨Nat.le_of_ble_eq_true rfl, Nat.le_of_ble_eq_true rfl⟩) hP hD hS hA [0, 1, 2, 3, 4, 5] rfl (fun r2 H locs hw2 hP hS => ?_)
  try dsimp only at hw2
  refine lv_istore_n (lv' := [(2, .int r2), (0, .ref qm), (1, .int p0)]) hx hb dX1_unitsOfTick_5 rfl hl (by decide) rfl (fun ls hl => ?_)
  refine lv_iload_n hx hb dX1_unitsOfTick_6 rfl (lv_at hl 0 rfl) ?_
  refine lv_if_ge (tgt := 14) hx hb dX1_unitsOfTick_7 (by decide) (fun c7 => ?_) (fun c7 => ?_)
  · have k7 : (0 : Int) ≤ r2.toInt := i_le (show ((0 : Int32)).toInt = 0 by decide) rfl c7
    have bg := bi_get hw2 k7
    refine lv_iload_n hx hb dX1_unitsOfTick_14 rfl (lv_at hl 2 rfl) ?_
    refine lv_aload_n hx hb dX1_unitsOfTick_15 rfl (lv_at hl 1 rfl) ?_
    refine va_get (D := G) (ci := 1) (v := .ref qm1) (C := RX1) (T := TX1) (N := 6) hx hb hts hiX1 hown hK hP 0 rfl rfl 0 (by decide) hf9 (fun _ h9 => h9) rfl dX1_unitsOfTick_16 ?_
    refine lv_iload_n hx hb dX1_unitsOfTick_19 rfl (lv_at hl 0 rfl) ?_
    refine va_iald hx hb hK hP 1 0 rfl rfl (vi_in rfl (by omega) (by omega)) dX1_unitsOfTick_20 ?_
    refine lv_topi (fun x20 ex20 => ?_)
    have ex20 : x20 = kt r2.toInt.toNat := by rw [ex20]; exact congrArg _ (cl_nat rfl (by omega))
    have tx20 : x20.toInt = (kt r2.toInt.toNat).toInt := by rw [ex20]
    have hrg_x20 := hrg r2.toInt.toNat (by omega)
    refine lv_isub hx hb dX1_unitsOfTick_21 ?_
    refine lv_topi (fun x21 ex21 => ?_)
    have tx21 : x21.toInt = p0.toInt - x20.toInt := by rw [ex21]; exact ti_sub rfl rfl (by omega) (by omega)
    refine lv_istore_n (lv' := [(3, .int x21), (2, .int r2), (0, .ref qm), (1, .int p0)]) hx hb dX1_unitsOfTick_22 rfl hl (by decide) rfl (fun ls hl => ?_)
    refine lv_aload_n hx hb dX1_unitsOfTick_23 rfl (lv_at hl 2 rfl) ?_
    refine va_get (D := G) (ci := 1) (v := .ref qm2) (C := RX1) (T := TX1) (N := 6) hx hb hts hiX1 hown hK hP 0 rfl rfl 1 (by decide) hf15 (fun _ h9 => h9) rfl dX1_unitsOfTick_24 ?_
    refine lv_iload_n hx hb dX1_unitsOfTick_27 rfl (lv_at hl 1 rfl) ?_
    refine va_iald hx hb hK hP 2 0 rfl rfl (vi_in rfl (by omega) (by omega)) dX1_unitsOfTick_28 ?_
    refine lv_topi (fun x28 ex28 => ?_)
    have ex28 : x28 = ks r2.toInt.toNat := by rw [ex28]; exact congrArg _ (cl_nat rfl (by omega))
    have tx28 : x28.toInt = (ks r2.toInt.toNat).toInt := by rw [ex28]
    have hrg_x28 := hrg r2.toInt.toNat (by omega)
    refine lv_istore (lv' := [(4, .int x28), (3, .int x21), (2, .int r2), (0, .ref qm), (1, .int p0)]) hx hb dX1_unitsOfTick_29  hl (by decide) rfl (fun ls hl => ?_)
    refine lv_iload hx hb dX1_unitsOfTick_31 (lv_at hl 0 rfl) ?_
    refine lv_iconst (v := 1) hx hb dX1_unitsOfTick_33 (by decide) ?_
    refine lv_icmp_lt (tgt := 43) hx hb dX1_unitsOfTick_34 (by decide) (fun c34 => ?_) (fun c34 => ?_)
    · have k34 : (x28.toInt : Int) < 1 := i_lt rfl (show ((1 : Int32)).toInt = 1 by decide) c34
      refine lv_aload_n hx hb dX1_unitsOfTick_43 rfl (lv_at hl 3 rfl) ?_
      refine va_get (D := G) (ci := 1) (v := .ref qm4) (C := RX1) (T := TX1) (N := 6) hx hb hts hiX1 hown hK hP 0 rfl rfl 3 (by decide) hf21 (fun _ h9 => h9) rfl dX1_unitsOfTick_44 ?_
      refine lv_iload_n hx hb dX1_unitsOfTick_47 rfl (lv_at hl 2 rfl) ?_
      refine va_iald hx hb hK hP 4 0 rfl rfl (vi_in rfl (by omega) (by omega)) dX1_unitsOfTick_48 ?_
      refine lv_topi (fun x48 ex48 => ?_)
      have ex48 : x48 = kl r2.toInt.toNat := by rw [ex48]; exact congrArg _ (cl_nat rfl (by omega))
      have tx48 : x48.toInt = (kl r2.toInt.toNat).toInt := by rw [ex48]
      have hrg_x48 := hrg r2.toInt.toNat (by omega)
      exact W.iret (v := x48) hx hb hr (fun t ht hW => ⟨⟨x48, (), rfl, (by (try dsimp only); exact (by rw [pace_at hOm.2.2.1 bg.1 bg.2.2.1 bg.2.2.2]; unfold seg; rw [if_pos (by omega)]; omega)), by rw [ht]; exact hP, hD⟩, hS.F ht⟩) hS.2.2 dX1_unitsOfTick_49
    · have k34 : (1 : Int) ≤ x28.toInt := i_nlt rfl (show ((1 : Int32)).toInt = 1 by decide) c34
      refine lv_iload_n hx hb dX1_unitsOfTick_37 rfl (lv_at hl 1 rfl) ?_
      refine lv_iload hx hb dX1_unitsOfTick_38 (lv_at hl 0 rfl) ?_
      refine lv_icmp_lt (tgt := 50) hx hb dX1_unitsOfTick_40 (by decide) (fun c40 => ?_) (fun c40 => ?_)
      · have k40 : (x21.toInt : Int) < x28.toInt := i_lt rfl rfl c40
        refine lv_aload_n hx hb dX1_unitsOfTick_50 rfl (lv_at hl 3 rfl) ?_
        refine va_get (D := G) (ci := 1) (v := .ref qm4) (C := RX1) (T := TX1) (N := 6) hx hb hts hiX1 hown hK hP 0 rfl rfl 3 (by decide) hf21 (fun _ h9 => h9) rfl dX1_unitsOfTick_51 ?_
        refine lv_iload_n hx hb dX1_unitsOfTick_54 rfl (lv_at hl 2 rfl) ?_
        refine va_iald hx hb hK hP 4 0 rfl rfl (vi_in rfl (by omega) (by omega)) dX1_unitsOfTick_55 ?_
        refine lv_topi (fun x55 ex55 => ?_)
        have ex55 : x55 = kl r2.toInt.toNat := by rw [ex55]; exact congrArg _ (cl_nat rfl (by omega))
        have tx55 : x55.toInt = (kl r2.toInt.toNat).toInt := by rw [ex55]
        have hrg_x55 := hrg r2.toInt.toNat (by omega)
        refine lv_aload_n hx hb dX1_unitsOfTick_56 rfl (lv_at hl 3 rfl) ?_
        refine va_get (D := G) (ci := 1) (v := .ref qm3) (C := RX1) (T := TX1) (N := 6) hx hb hts hiX1 hown hK hP 0 rfl rfl 2 (by decide) hf18 (fun _ h9 => h9) rfl dX1_unitsOfTick_57 ?_
        refine lv_iload_n hx hb dX1_unitsOfTick_60 rfl (lv_at hl 2 rfl) ?_
        refine va_iald hx hb hK hP 3 0 rfl rfl (vi_in rfl (by omega) (by omega)) dX1_unitsOfTick_61 ?_
        refine lv_topi (fun x61 ex61 => ?_)
        have ex61 : x61 = kf r2.toInt.toNat := by rw [ex61]; exact congrArg _ (cl_nat rfl (by omega))
        have tx61 : x61.toInt = (kf r2.toInt.toNat).toInt := by rw [ex61]
        have hrg_x61 := hrg r2.toInt.toNat (by omega)
        refine lv_isub hx hb dX1_unitsOfTick_62 ?_
        refine lv_topi (fun x62 ex62 => ?_)
        have tx62 : x62.toInt = x55.toInt - x61.toInt := by rw [ex62]; exact ti_sub rfl rfl (by omega) (by omega)
        refine lv_istore (lv' := [(5, .int x62), (4, .int x28), (3, .int x21), (2, .int r2), (0, .ref qm), (1, .int p0)]) hx hb dX1_unitsOfTick_63  hl (by decide) rfl (fun ls hl => ?_)
        refine lv_aload_n hx hb dX1_unitsOfTick_65 rfl (lv_at hl 4 rfl) ?_
        refine va_get (D := G) (ci := 1) (v := .ref qm3) (C := RX1) (T := TX1) (N := 6) hx hb hts hiX1 hown hK hP 0 rfl rfl 2 (by decide) hf18 (fun _ h9 => h9) rfl dX1_unitsOfTick_66 ?_
        refine lv_iload_n hx hb dX1_unitsOfTick_69 rfl (lv_at hl 3 rfl) ?_
        refine va_iald hx hb hK hP 3 0 rfl rfl (vi_in rfl (by omega) (by omega)) dX1_unitsOfTick_70 ?_
        refine lv_topi (fun x70 ex70 => ?_)
        have ex70 : x70 = kf r2.toInt.toNat := by rw [ex70]; exact congrArg _ (cl_nat rfl (by omega))
        have tx70 : x70.toInt = (kf r2.toInt.toNat).toInt := by rw [ex70]
        have hrg_x70 := hrg r2.toInt.toNat (by omega)
        refine lv_iload hx hb dX1_unitsOfTick_71 (lv_at hl 0 rfl) ?_
        refine lv_iload_n hx hb dX1_unitsOfTick_73 rfl (lv_at hl 2 rfl) ?_
        have b74 := mul_abs (show -1000000 ≤ x62.toInt ∧ x62.toInt ≤ 1000000 by omega) (show 0 ≤ x21.toInt ∧ x21.toInt ≤ 2000 by omega)
        refine lv_imul hx hb dX1_unitsOfTick_74 ?_
        refine lv_topi (fun x74 ex74 => ?_)
        have tx74 : x74.toInt = x62.toInt * x21.toInt := by rw [ex74]; exact ti_mul rfl rfl (by omega) (by omega)
        refine lv_iload hx hb dX1_unitsOfTick_75 (lv_at hl 1 rfl) ?_
        have hPc := hP.sub (ws' := ([] : va_W)) [] rfl
        have hDc := hD.sub (ws' := ([] : va_W)) [] (by decide) rfl
        have hcc := (ct_J9_floorDiv_7cf53 l G cI cL H.size x74 x28 (by omega))
        refine ro_calli (va_runS (As := [.int x74, .int x28]) (rest := [.int x70]) ⟨hx, hb, hml, hown, hts⟩ hcc (va_cwS 2 hts gX1_unitsOfTick_J9_floorDiv_7cf53 rfl rfl rfl (by decide +kernel) ⟨Nat.le_of_ble_eq_true rfl, Nat.le_of_ble_eq_true rfl⟩) ⟨pre_blind, pre_pass hK hN hPc hDc⟩ rfl rfl hl.1 rfl (lv_room (Nat.le_of_ble_eq_true rfl)) dX1_unitsOfTick_77 ⟨Nat.le_of_ble_eq_true rfl, Nat.le_of_ble_eq_true rfl⟩) hP hD hS hA [] rfl (fun r77 H locs hw77 hP hS => ?_)
        try dsimp only at hw77
        have b80 := div_abs (a := x74.toInt) (b := x28.toInt) (A := 2000000000) (by omega) (by omega)
        rw [← hw77] at b80
        refine lv_iadd hx hb dX1_unitsOfTick_80 ?_
        refine lv_topi (fun x80 ex80 => ?_)
        have tx80 : x80.toInt = x70.toInt + r77.toInt := by rw [ex80]; exact ti_add rfl rfl (by omega) (by omega)
        have e74 : x74.toInt = ((kl r2.toInt.toNat).toInt - (kf r2.toInt.toNat).toInt) * (p0.toInt - (kt r2.toInt.toNat).toInt) := by rw [tx74, show x62.toInt = (kl r2.toInt.toNat).toInt - (kf r2.toInt.toNat).toInt by omega, show x21.toInt = p0.toInt - (kt r2.toInt.toNat).toInt by omega]
        exact W.iret (v := x80) hx hb hr (fun t ht hW => ⟨⟨x80, (), rfl, (by (try dsimp only); exact (by rw [pace_at hOm.2.2.1 bg.1 bg.2.2.1 bg.2.2.2]; unfold seg; rw [if_neg (by omega), ← e74, ← tx28, ← hw77]; omega)), by rw [ht]; exact hP, hD⟩, hS.F ht⟩) hS.2.2 dX1_unitsOfTick_81
      · have k40 : (x28.toInt : Int) ≤ x21.toInt := i_nlt rfl rfl c40
        refine lv_aload_n hx hb dX1_unitsOfTick_43 rfl (lv_at hl 3 rfl) ?_
        refine va_get (D := G) (ci := 1) (v := .ref qm4) (C := RX1) (T := TX1) (N := 6) hx hb hts hiX1 hown hK hP 0 rfl rfl 3 (by decide) hf21 (fun _ h9 => h9) rfl dX1_unitsOfTick_44 ?_
        refine lv_iload_n hx hb dX1_unitsOfTick_47 rfl (lv_at hl 2 rfl) ?_
        refine va_iald hx hb hK hP 4 0 rfl rfl (vi_in rfl (by omega) (by omega)) dX1_unitsOfTick_48 ?_
        refine lv_topi (fun x48_2 ex48_2 => ?_)
        have ex48_2 : x48_2 = kl r2.toInt.toNat := by rw [ex48_2]; exact congrArg _ (cl_nat rfl (by omega))
        have tx48_2 : x48_2.toInt = (kl r2.toInt.toNat).toInt := by rw [ex48_2]
        have hrg_x48_2 := hrg r2.toInt.toNat (by omega)
        exact W.iret (v := x48_2) hx hb hr (fun t ht hW => ⟨⟨x48_2, (), rfl, (by (try dsimp only); exact (by rw [pace_at hOm.2.2.1 bg.1 bg.2.2.1 bg.2.2.2]; unfold seg; rw [if_pos (by omega)]; omega)), by rw [ht]; exact hP, hD⟩, hS.F ht⟩) hS.2.2 dX1_unitsOfTick_49
  · have k7 : (r2.toInt : Int) < 0 := i_nle (show ((0 : Int32)).toInt = 0 by decide) rfl c7
    have bn := bi_neg hw2 k7
    refine lv_sipush (v := 1000) hx hb dX1_unitsOfTick_10 (by decide) ?_
    exact W.iret (v := 1000) hx hb hr (fun t ht hW => ⟨⟨1000, (), rfl, (by (try dsimp only); exact (by rw [pace_none bn.2]; omega)), by rw [ht]; exact hP, hD⟩, hS.F ht⟩) hS.2.2 dX1_unitsOfTick_13
set_option maxHeartbeats 1000000 in
set_option maxRecDepth 100000 in
theorem ct_X1_unitsAhead (l : Launch) (G : va_G) (cI cL : ClassId) (sz : Nat) (qm : Nat) (qm1 : Nat) (qm2 : Nat) (qm3 : Nat) (qm4 : Nat) (qm5 : Nat) (zm : Int32) (kt : Nat → Int32) (ks : Nat → Int32) (kf : Nat → Int32) (kl : Nat → Int32) (ku : Nat → Int64) (p0 : Int32) (nm : Nat) (hnm : zm.toInt = nm) (hOm : okM nm kt ks kf kl) (hSr : srt nm kt) (hU : okU nm kt ks kf kl ku) (hp0 : 0 ≤ p0.toInt ∧ p0.toInt ≤ 1000000) : Met l yX1_unitsAhead wsX1_unitsAhead ({ frames := 3, cells := 0, slots := 0, locals := 87 }) (va_Pc [.ref qm, .int p0] (pre0 G cI cL [(qm, .inr (1, [.ref qm1, .ref qm2, .ref qm3, .ref qm4, .ref qm5, .int zm])), (qm1, .inl (cI, 40, .inl kt)), (qm2, .inl (cI, 40, .inl ks)), (qm3, .inl (cI, 40, .inl kf)), (qm4, .inl (cI, 40, .inl kl)), (qm5, .inl (cL, 40, .inr (.inl ku)))] sz)) (va_Ql (fun (r : Int64) (u : Unit) => r.toInt = psum (paceF kt ks kf kl nm) p0.toInt.toNat) (fun (u : Unit) t => va_P G vwCl [(qm, .inr (1, [.ref qm1, .ref qm2, .ref qm3, .ref qm4, .ref qm5, .int zm])), (qm1, .inl (cI, 40, .inl kt)), (qm2, .inl (cI, 40, .inl ks)), (qm3, .inl (cI, 40, .inl kf)), (qm4, .inl (cI, 40, .inl kl)), (qm5, .inl (cL, 40, .inr (.inl ku)))] t.heap ∧ va_D (va_A [(qm, .inr (1, [.ref qm1, .ref qm2, .ref qm3, .ref qm4, .ref qm5, .int zm])), (qm1, .inl (cI, 40, .inl kt)), (qm2, .inl (cI, 40, .inl ks)), (qm3, .inl (cI, 40, .inl kf)), (qm4, .inl (cI, 40, .inl kl)), (qm5, .inl (cL, 40, .inr (.inl ku)))] sz) [(qm, .inr (1, [.ref qm1, .ref qm2, .ref qm3, .ref qm4, .ref qm5, .int zm])), (qm1, .inl (cI, 40, .inl kt)), (qm2, .inl (cI, 40, .inl ks)), (qm3, .inl (cI, 40, .inl kf)), (qm4, .inl (cI, 40, .inl kl)), (qm5, .inl (cL, 40, .inr (.inl ku)))]) (va_A [(qm, .inr (1, [.ref qm1, .ref qm2, .ref qm3, .ref qm4, .ref qm5, .int zm])), (qm1, .inl (cI, 40, .inl kt)), (qm2, .inl (cI, 40, .inl ks)), (qm3, .inl (cI, 40, .inl kf)), (qm4, .inl (cI, 40, .inl kl)), (qm5, .inl (cL, 40, .inr (.inl ku)))] sz)) 0 0 (va_A [(qm, .inr (1, [.ref qm1, .ref qm2, .ref qm3, .ref qm4, .ref qm5, .int zm])), (qm1, .inl (cI, 40, .inl kt)), (qm2, .inl (cI, 40, .inl ks)), (qm3, .inl (cI, 40, .inl kf)), (qm4, .inl (cI, 40, .inl kl)), (qm5, .inl (cL, 40, .inr (.inl ku)))] sz) := by
  refine Met.ofW (cc := cX1_unitsAhead) (maxL := 2) (ret := (some .long)) (by decide) rfl ?_
  intro p e s m args below meth c s₁ B hml hv
  obtain ⟨rfl, hsz, hP, hK, hD0, hN⟩ := hv
  have hx := B.exec
  have hb := B.bytes
  have hr := B.returns
  have hts := atoms_spec (ws := wsX1_unitsAhead) B.pre
  have hown : s.vm.findClass RX1 = some m.cls := findClass_of_methodNamed B.named
  have hlocks := B.notSynchronized
  subst hsz
  have hD := hD0.self (sz := s.heap.size)
  generalize hAe : va_A [(qm, .inr (1, [.ref qm1, .ref qm2, .ref qm3, .ref qm4, .ref qm5, .int zm])), (qm1, .inl (cI, 40, .inl kt)), (qm2, .inl (cI, 40, .inl ks)), (qm3, .inl (cI, 40, .inl kf)), (qm4, .inl (cI, 40, .inl kl)), (qm5, .inl (cL, 40, .inr (.inl ku)))] s.heap.size = A at hD ⊢
  have hA : ∀ q : Nat, s.heap.size ≤ q → A q := fun q h => by rw [← hAe]; exact Or.inr h
  have hP : va_P G vwCl [(qm, .inr (1, [.ref qm1, .ref qm2, .ref qm3, .ref qm4, .ref qm5, .int zm])), (qm1, .inl (cI, 40, .inl kt)), (qm2, .inl (cI, 40, .inl ks)), (qm3, .inl (cI, 40, .inl kf)), (qm4, .inl (cI, 40, .inl kl)), (qm5, .inl (cL, 40, .inr (.inl ku)))] s.heap := hP
  have hl := lv_entry ([.ref qm, .int p0]) (n := 2) (Nat.le_of_ble_eq_true rfl)
  rw [lg_entry_eq]
  generalize (lg_sl ([.ref qm, .int p0]) ++ List.replicate (2 - (lg_sl ([.ref qm, .int p0])).length) Slot.unset).toArray = ls at hl ⊢
  have hl : lv_has ls 2 [(0, .ref qm), (1, .int p0)] := hl
  refine w_h (A := A) hP (fun H locs hP hS => ?_)
  have hn40 := hOm.1
  have hrg := hOm.2.1
  refine lv_aload_n hx hb dX1_unitsAhead_0 rfl (lv_at hl 0 rfl) ?_
  refine lv_aload_n hx hb dX1_unitsAhead_1 rfl (lv_at hl 0 rfl) ?_
  refine lv_iload_n hx hb dX1_unitsAhead_2 rfl (lv_at hl 1 rfl) ?_
  have hPc := hP.sub (ws' := [(qm, .inr (1, [.ref qm1, .ref qm2, .ref qm3, .ref qm4, .ref qm5, .int zm])), (qm1, .inl (cI, 40, .inl kt)), (qm2, .inl (cI, 40, .inl ks)), (qm3, .inl (cI, 40, .inl kf)), (qm4, .inl (cI, 40, .inl kl)), (qm5, .inl (cL, 40, .inr (.inl ku)))]) [0, 1, 2, 3, 4, 5] rfl
  have hDc := hD.sub (ws' := [(qm, .inr (1, [.ref qm1, .ref qm2, .ref qm3, .ref qm4, .ref qm5, .int zm])), (qm1, .inl (cI, 40, .inl kt)), (qm2, .inl (cI, 40, .inl ks)), (qm3, .inl (cI, 40, .inl kf)), (qm4, .inl (cI, 40, .inl kl)), (qm5, .inl (cL, 40, .inr (.inl ku)))]) [0, 1, 2, 3, 4, 5] (by decide) rfl
  have hcc := (ct_X1_placeOf l G cI cL H.size qm qm1 qm2 qm3 qm4 qm5 zm kt ks kf kl ku p0 nm hnm hOm hSr)
  refine ro_calli (va_runV (As := [.int p0]) (rest := [.ref qm]) ⟨hx, hb, hml, hown, hts⟩ hcc (cwV 1 hts gX1_unitsAhead_X1_placeOf rfl rfl rfl (by decide +kernel) ⟨Nat.le_of_ble_eq_true rfl, Nat.le_of_ble_eq_true rfl⟩) ⟨pre_blind, va_recv hK hPc (ci := 1) (q0 := 0) rfl rfl, pre_pass hK hN hPc hDc⟩ rfl rfl hl.1 rfl (lv_room (Nat.le_of_ble_eq_true rfl)) dX1_unitsAhead_3 ⟨Nat.le_of_ble_eq_true rfl, Nat.le_of_ble_eq_true rfl⟩) hP hD hS hA [0, 1, 2, 3, 4, 5] rfl (fun r3 H locs hw3 hP hS => ?_)
  try dsimp only at hw3
  have bs : -1 ≤ r3.toInt ∧ r3.toInt < nm := by rcases Int.lt_or_le r3.toInt 0 with q | q; exact ⟨by have := bi_neg hw3 q; omega, by omega⟩; exact ⟨by omega, (bi_get hw3 q).2.1⟩
  refine lv_iload_n hx hb dX1_unitsAhead_6 rfl (lv_at hl 1 rfl) ?_
  have hPc := hP.sub (ws' := [(qm, .inr (1, [.ref qm1, .ref qm2, .ref qm3, .ref qm4, .ref qm5, .int zm])), (qm1, .inl (cI, 40, .inl kt)), (qm2, .inl (cI, 40, .inl ks)), (qm3, .inl (cI, 40, .inl kf)), (qm4, .inl (cI, 40, .inl kl)), (qm5, .inl (cL, 40, .inr (.inl ku)))]) [0, 1, 2, 3, 4, 5] rfl
  have hDc := hD.sub (ws' := [(qm, .inr (1, [.ref qm1, .ref qm2, .ref qm3, .ref qm4, .ref qm5, .int zm])), (qm1, .inl (cI, 40, .inl kt)), (qm2, .inl (cI, 40, .inl ks)), (qm3, .inl (cI, 40, .inl kf)), (qm4, .inl (cI, 40, .inl kl)), (qm5, .inl (cL, 40, .inr (.inl ku)))]) [0, 1, 2, 3, 4, 5] (by decide) rfl
  have hcc := (ct_X1_unitsAheadBy l G cI cL H.size qm qm1 qm2 qm3 qm4 qm5 zm kt ks kf kl ku r3 p0 nm hnm hOm hSr (by omega) (by omega) ((fun h => ⟨(bi_get hw3 h).2.2.1, hU _ (bi_get hw3 h).1⟩)) ((fun k hk h => by
      rcases Int.lt_or_le p0.toInt (kt k).toInt with q | q
      · omega
      · rcases Int.lt_or_le r3.toInt 0 with q2 | q2
        · have := (bi_neg hw3 q2).2 k hk; omega
        · have := (bi_get hw3 q2).2.2.2 k hk q; have := hSr r3.toInt.toNat k (by omega) hk; omega)))
  refine ro_calll (va_runV (As := [.int r3, .int p0]) (rest := []) ⟨hx, hb, hml, hown, hts⟩ hcc (cwV 2 hts gX1_unitsAhead_X1_unitsAheadBy rfl rfl rfl (by decide +kernel) ⟨Nat.le_of_ble_eq_true rfl, Nat.le_of_ble_eq_true rfl⟩) ⟨pre_blind, va_recv hK hPc (ci := 1) (q0 := 0) rfl rfl, pre_pass hK hN hPc hDc⟩ rfl rfl hl.1 rfl (lv_room (Nat.le_of_ble_eq_true rfl)) dX1_unitsAhead_7 ⟨Nat.le_of_ble_eq_true rfl, Nat.le_of_ble_eq_true rfl⟩) hP hD hS hA [0, 1, 2, 3, 4, 5] rfl (fun r7 H locs hw7 hP hS => ?_)
  try dsimp only at hw7
  exact W.lret (v := r7) hx hb hr (fun t ht hW => ⟨⟨r7, (), rfl, (by (try dsimp only); exact (by omega)), by rw [ht]; exact hP, hD⟩, hS.F ht⟩) hS.2.2 dX1_unitsAhead_10

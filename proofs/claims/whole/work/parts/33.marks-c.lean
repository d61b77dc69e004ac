set_option maxHeartbeats 1000000 in
set_option maxRecDepth 100000 in
theorem ct_X1_put (l : Launch) (G : va_G) (cI cL : ClassId) (sz : Nat) (qm : Nat) (qm1 : Nat) (qm2 : Nat) (qm3 : Nat) (qm4 : Nat) (qm5 : Nat) (zm : Int32) (kt : Nat → Int32) (ks : Nat → Int32) (kf : Nat → Int32) (kl : Nat → Int32) (ku : Nat → Int64) (p0 : Int32) (p1 : Int32) (p2 : Int32) (p3 : Int32) (nm : Nat) (hnm : zm.toInt = nm) (hOm : okM nm kt ks kf kl) (hSr : srt nm kt) (hU : okU nm kt ks kf kl ku) (hx0 : 0 ≤ p0.toInt ∧ p0.toInt ≤ 999999) (hx1 : 0 ≤ p1.toInt ∧ p1.toInt ≤ 2000) (hx2 : p0.toInt + p1.toInt ≤ 1000000) (hx3 : 1 ≤ p2.toInt ∧ p2.toInt ≤ 1000000) (hx4 : 1 ≤ p3.toInt ∧ p3.toInt ≤ 1000000) (hni : ¬ insS nm kt ks p0.toInt) (hnb : ¬ btw nm kt p0.toInt (p0.toInt + p1.toInt)) : Met l yX1_put wsX1_put ({ frames := 4, cells := 0, slots := 0, locals := 109 }) (va_Pc [.ref qm, .int p0, .int p1, .int p2, .int p3] (pre0 G cI cL [(qm, .inr (1, [.ref qm1, .ref qm2, .ref qm3, .ref qm4, .ref qm5, .int zm])), (qm1, .inl (cI, 40, .inl kt)), (qm2, .inl (cI, 40, .inl ks)), (qm3, .inl (cI, 40, .inl kf)), (qm4, .inl (cI, 40, .inl kl)), (qm5, .inl (cL, 40, .inr (.inl ku)))] sz)) (va_Qi (fun (r : Int32) (u : Int32 × (Nat → Int32) × (Nat → Int32) × (Nat → Int32) × (Nat → Int32) × (Nat → Int64)) => ∃ n' : Nat, u.1.toInt = n' ∧ cPut nm kt ks kf kl p0 p1 p2 p3 r.toInt n' u.2.1 u.2.2.1 u.2.2.2.1 u.2.2.2.2.1 ∧ okM n' u.2.1 u.2.2.1 u.2.2.2.1 u.2.2.2.2.1 ∧ srt n' u.2.1 ∧ okU n' u.2.1 u.2.2.1 u.2.2.2.1 u.2.2.2.2.1 u.2.2.2.2.2) (fun (u : Int32 × (Nat → Int32) × (Nat → Int32) × (Nat → Int32) × (Nat → Int32) × (Nat → Int64)) t => va_P G vwCl [(qm, .inr (1, [.ref qm1, .ref qm2, .ref qm3, .ref qm4, .ref qm5, .int u.1])), (qm1, .inl (cI, 40, .inl (u.2.1))), (qm2, .inl (cI, 40, .inl (u.2.2.1))), (qm3, .inl (cI, 40, .inl (u.2.2.2.1))), (qm4, .inl (cI, 40, .inl (u.2.2.2.2.1))), (qm5, .inl (cL, 40, .inr (.inl (u.2.2.2.2.2))))] t.heap ∧ va_D (va_A [(qm, .inr (1, [.ref qm1, .ref qm2, .ref qm3, .ref qm4, .ref qm5, .int zm])), (qm1, .inl (cI, 40, .inl kt)), (qm2, .inl (cI, 40, .inl ks)), (qm3, .inl (cI, 40, .inl kf)), (qm4, .inl (cI, 40, .inl kl)), (qm5, .inl (cL, 40, .inr (.inl ku)))] sz) [(qm, .inr (1, [.ref qm1, .ref qm2, .ref qm3, .ref qm4, .ref qm5, .int u.1])), (qm1, .inl (cI, 40, .inl (u.2.1))), (qm2, .inl (cI, 40, .inl (u.2.2.1))), (qm3, .inl (cI, 40, .inl (u.2.2.2.1))), (qm4, .inl (cI, 40, .inl (u.2.2.2.2.1))), (qm5, .inl (cL, 40, .inr (.inl (u.2.2.2.2.2))))]) (va_A [(qm, .inr (1, [.ref qm1, .ref qm2, .ref qm3, .ref qm4, .ref qm5, .int zm])), (qm1, .inl (cI, 40, .inl kt)), (qm2, .inl (cI, 40, .inl ks)), (qm3, .inl (cI, 40, .inl kf)), (qm4, .inl (cI, 40, .inl kl)), (qm5, .inl (cL, 40, .inr (.inl ku)))] sz)) 0 0 (va_A [(qm, .inr (1, [.ref qm1, .ref qm2, .ref qm3, .ref qm4, .ref qm5, .int zm])), (qm1, .inl (cI, 40, .inl kt)), (qm2, .inl (cI, 40, .inl ks)), (qm3, .inl (cI, 40, .inl kf)), (qm4, .inl (cI, 40, .inl kl)), (qm5, .inl (cL, 40, .inr (.inl ku)))] sz) := by
  refine Met.ofW (cc := cX1_put) (maxL := 6) (ret := (some .int)) (by decide) rfl ?_
  intro p e s m args below meth c s₁ B hml hv
  obtain ⟨rfl, hsz, hP, hK, hD0, hN⟩ := hv
  have hx := B.exec
  have hb := B.bytes
  have hr := B.returns
  have hts := atoms_spec (ws := wsX1_put) B.pre
  have hown : s.vm.findClass RX1 = some m.cls := findClass_of_methodNamed B.named
  have hlocks := B.notSynchronized
  subst hsz
  have hD := hD0.self (sz := s.heap.size)
  generalize hAe : va_A [(qm, .inr (1, [.ref qm1, .ref qm2, .ref qm3, .ref qm4, .ref qm5, .int zm])), (qm1, .inl (cI, 40, .inl kt)), (qm2, .inl (cI, 40, .inl ks)), (qm3, .inl (cI, 40, .inl kf)), (qm4, .inl (cI, 40, .inl kl)), (qm5, .inl (cL, 40, .inr (.inl ku)))] s.heap.size = A at hD ⊢
  have hA : ∀ q : Nat, s.heap.size ≤ q → A q := fun q h => by rw [← hAe]; exact Or.inr h
  have hP : va_P G vwCl [(qm, .inr (1, [.ref qm1, .ref qm2, .ref qm3, .ref qm4, .ref qm5, .int zm])), (qm1, .inl (cI, 40, .inl kt)), (qm2, .inl (cI, 40, .inl ks)), (qm3, .inl (cI, 40, .inl kf)), (qm4, .inl (cI, 40, .inl kl)), (qm5, .inl (cL, 40, .inr (.inl ku)))] s.heap := hP
  have hl := lv_entry ([.ref qm, .int p0, .int p1, .int p2, .int p3]) (n := 6) (Nat.le_of_ble_eq_true rfl)
  rw [lg_entry_eq]
  generalize (lg_sl ([.ref qm, .int p0, .int p1, .int p2, .int p3]) ++ List.replicate (6 - (lg_sl ([.ref qm, .int p0, .int p1, .int p2, .int p3])).length) Slot.unset).toArray = ls at hl ⊢
  have hl : lv_has ls 6 [(0, .ref qm), (1, .int p0), (2, .int p1), (3, .int p2), (4, .int p3)] := hl
  have hf9 := hts (.fieldLink RX1 9 "TempoMaps$Marks" "ticks" "[I") (by decide +kernel)
  have hf28 := hts (.fieldLink RX1 28 "TempoMaps$Marks" "size" "I") (by decide +kernel)
  have hf15 := hts (.fieldLink RX1 15 "TempoMaps$Marks" "spans" "[I") (by decide +kernel)
  have hf18 := hts (.fieldLink RX1 18 "TempoMaps$Marks" "firstPaces" "[I") (by decide +kernel)
  have hf21 := hts (.fieldLink RX1 21 "TempoMaps$Marks" "lastPaces" "[I") (by decide +kernel)
  have hiX1 : ∀ w ∈ wsX10, w ∈ wsX1_put := by decide +kernel
  have zim4 : ((-4 : Int32)).toInt = -4 := by decide
  have zi1 : ((1 : Int32)).toInt = 1 := by decide
  have zi40 : ((40 : Int32)).toInt = 40 := by decide
  refine w_h (A := A) hP (fun H locs hP hS => ?_)
  have hn40 := hOm.1
  have hrg := hOm.2.1
  refine lv_aload_n hx hb dX1_put_0 rfl (lv_at hl 0 rfl) ?_
  refine lv_iload_n hx hb dX1_put_1 rfl (lv_at hl 1 rfl) ?_
  have hPc := hP.sub (ws' := [(qm, .inr (1, [.ref qm1, .ref qm2, .ref qm3, .ref qm4, .ref qm5, .int zm])), (qm1, .inl (cI, 40, .inl kt)), (qm2, .inl (cI, 40, .inl ks)), (qm3, .inl (cI, 40, .inl kf)), (qm4, .inl (cI, 40, .inl kl)), (qm5, .inl (cL, 40, .inr (.inl ku)))]) [0, 1, 2, 3, 4, 5] rfl
  have hDc := hD.sub (ws' := [(qm, .inr (1, [.ref qm1, .ref qm2, .ref qm3, .ref qm4, .ref qm5, .int zm])), (qm1, .inl (cI, 40, .inl kt)), (qm2, .inl (cI, 40, .inl ks)), (qm3, .inl (cI, 40, .inl kf)), (qm4, .inl (cI, 40, .inl kl)), (qm5, .inl (cL, 40, .inr (.inl ku)))]) [0, 1, 2, 3, 4, 5] (by decide) rfl
  have hcc := (ct_X1_placeOf l G cI cL H.size qm qm1 qm2 qm3 qm4 qm5 zm kt ks kf kl ku p0 nm hnm hOm hSr)
  refine ro_calli (va_runV (As := [.int p0]) (rest := []) ⟨hx, hb, hml, hown, hts⟩ hcc (cwV 1 hts gX1_put_X1_placeOf rfl rfl rfl (by decide +kernel) ⟨Nat.le_of_ble_eq_true rfl, Nat.le_of_ble_eq_true rfl⟩) ⟨pre_blind, va_recv hK hPc (ci := 1) (q0 := 0) rfl rfl, pre_pass hK hN hPc hDc⟩ rfl rfl hl.1 rfl (lv_room (Nat.le_of_ble_eq_true rfl)) dX1_put_2 ⟨Nat.le_of_ble_eq_true rfl, Nat.le_of_ble_eq_true rfl⟩) hP hD hS hA [0, 1, 2, 3, 4, 5] rfl (fun r2 H locs hw2 hP hS => ?_)
  try dsimp only at hw2
  refine lv_istore (lv' := [(5, .int r2), (0, .ref qm), (1, .int p0), (2, .int p1), (3, .int p2), (4, .int p3)]) hx hb dX1_put_5  hl (by decide) rfl (fun ls hl => ?_)
  refine lv_iload hx hb dX1_put_7 (lv_at hl 0 rfl) ?_
  refine lv_if_lt (tgt := 23) hx hb dX1_put_9 (by decide) (fun c9 => ?_) (fun c9 => ?_)
  · have k9 : (r2.toInt : Int) < 0 := i_lt rfl (show ((0 : Int32)).toInt = 0 by decide) c9
    have bp := bi_place hSr hw2 (by omega)
    have bne : ∀ k : Nat, k < nm → (kt k).toInt ≠ p0.toInt := fun k hk e => by
      rcases Nat.lt_or_ge k (r2.toInt + 1).toNat with q | q
      · have := bp.2.2.1 k hk q; omega
      · have := bp.2.2.2 k hk q; omega
    refine lv_aload_n hx hb dX1_put_23 rfl (lv_at hl 1 rfl) ?_
    refine va_get (D := G) (ci := 1) (v := .int zm) (C := RX1) (T := TX1) (N := 6) hx hb hts hiX1 hown hK hP 0 rfl rfl 5 (by decide) hf28 (fun _ h9 => h9) rfl dX1_put_24 ?_
    refine lv_bipush (v := 40) hx hb dX1_put_27 (by decide) ?_
    refine lv_icmp_lt (tgt := 35) hx hb dX1_put_29 (by decide) (fun c29 => ?_) (fun c29 => ?_)
    · have k29 : (zm.toInt : Int) < 40 := i_lt rfl (show ((40 : Int32)).toInt = 40 by decide) c29
      obtain ⟨x35, ex35⟩ : ∃ y : Int32, y = r2 + 1 := ⟨_, rfl⟩
      have tx35 : x35.toInt = r2.toInt + 1 := by rw [ex35]; exact ti_add rfl (by decide) (by omega) (by omega)
      refine lv_iinc (v := x35) (lv' := [(5, .int x35), (0, .ref qm), (1, .int p0), (2, .int p1), (3, .int p2), (4, .int p3)]) hx hb dX1_put_35 hl (k := 0) rfl (by rw [ex35]; rfl) (by decide) rfl (fun ls hl => ?_)
      refine lv_aload_n hx hb dX1_put_38 rfl (lv_at hl 1 rfl) ?_
      refine lv_iload hx hb dX1_put_39 (lv_at hl 0 rfl) ?_
      have hPc := hP.sub (ws' := [(qm, .inr (1, [.ref qm1, .ref qm2, .ref qm3, .ref qm4, .ref qm5, .int zm])), (qm1, .inl (cI, 40, .inl kt)), (qm2, .inl (cI, 40, .inl ks)), (qm3, .inl (cI, 40, .inl kf)), (qm4, .inl (cI, 40, .inl kl)), (qm5, .inl (cL, 40, .inr (.inl ku)))]) [0, 1, 2, 3, 4, 5] rfl
      have hDc := hD.sub (ws' := [(qm, .inr (1, [.ref qm1, .ref qm2, .ref qm3, .ref qm4, .ref qm5, .int zm])), (qm1, .inl (cI, 40, .inl kt)), (qm2, .inl (cI, 40, .inl ks)), (qm3, .inl (cI, 40, .inl kf)), (qm4, .inl (cI, 40, .inl kl)), (qm5, .inl (cL, 40, .inr (.inl ku)))]) [0, 1, 2, 3, 4, 5] (by decide) rfl
      have hcc := (ct_X1_openRow l G cI cL H.size qm qm1 qm2 qm3 qm4 qm5 zm kt ks kf kl ku x35 nm hnm (by omega) (by omega))
      refine rw_callv (wr := ([] : va_W)) (va_runV (As := [.int x35]) (rest := []) ⟨hx, hb, hml, hown, hts⟩ hcc (cwV 1 hts gX1_put_X1_openRow rfl rfl rfl (by decide +kernel) ⟨Nat.le_of_ble_eq_true rfl, Nat.le_of_ble_eq_true rfl⟩) ⟨pre_blind, va_recv hK hPc (ci := 1) (q0 := 0) rfl rfl, pre_pass hK hN hPc hDc⟩ rfl rfl hl.1 rfl (lv_room (Nat.le_of_ble_eq_true rfl)) dX1_put_41 ⟨Nat.le_of_ble_eq_true rfl, Nat.le_of_ble_eq_true rfl⟩) hP hD hS hA [0, 1, 2, 3, 4, 5] [] rfl rfl (by decide) (by decide) (fun u41 H locs hw41 hP hD hS => ?_)
      obtain ⟨zm41, kt41, ks41, kf41, kl41⟩ := u41
      have hP : va_P G vwCl [(qm, .inr (1, [.ref qm1, .ref qm2, .ref qm3, .ref qm4, .ref qm5, .int zm41])), (qm1, .inl (cI, 40, .inl kt41)), (qm2, .inl (cI, 40, .inl ks41)), (qm3, .inl (cI, 40, .inl kf41)), (qm4, .inl (cI, 40, .inl kl41)), (qm5, .inl (cL, 40, .inr (.inl ku)))] H := hP.sub [0, 1, 2, 3, 4, 5] rfl
      have hD : va_D A [(qm, .inr (1, [.ref qm1, .ref qm2, .ref qm3, .ref qm4, .ref qm5, .int zm41])), (qm1, .inl (cI, 40, .inl kt41)), (qm2, .inl (cI, 40, .inl ks41)), (qm3, .inl (cI, 40, .inl kf41)), (qm4, .inl (cI, 40, .inl kl41)), (qm5, .inl (cL, 40, .inr (.inl ku)))] := hD.sub [0, 1, 2, 3, 4, 5] (by decide) rfl
      try dsimp only at hw41
      refine lv_aload_n hx hb dX1_put_44 rfl (lv_at hl 1 rfl) ?_
      refine va_get (D := G) (ci := 1) (v := .ref qm1) (C := RX1) (T := TX1) (N := 6) hx hb hts hiX1 hown hK hP 0 rfl rfl 0 (by decide) hf9 (fun _ h9 => h9) rfl dX1_put_45 ?_
      refine lv_iload hx hb dX1_put_48 (lv_at hl 0 rfl) ?_
      refine lv_iload_n hx hb dX1_put_50 rfl (lv_at hl 2 rfl) ?_
      refine va_iast hx hb hK hP hD hS 1 0 rfl rfl (vi_in rfl (by omega) (by omega)) dX1_put_51 (fun H locs hP hD hS => ?_)
      rw [cl_nat rfl (show x35.toInt = ((x35.toInt.toNat : Nat) : Int) by omega)] at hP hD
      have hP : va_P G vwCl [(qm, .inr (1, [.ref qm1, .ref qm2, .ref qm3, .ref qm4, .ref qm5, .int zm41])), (qm1, .inl (cI, 40, .inl (upd kt41 x35.toInt.toNat p0))), (qm2, .inl (cI, 40, .inl ks41)), (qm3, .inl (cI, 40, .inl kf41)), (qm4, .inl (cI, 40, .inl kl41)), (qm5, .inl (cL, 40, .inr (.inl ku)))] H := hP
      have hD : va_D A [(qm, .inr (1, [.ref qm1, .ref qm2, .ref qm3, .ref qm4, .ref qm5, .int zm41])), (qm1, .inl (cI, 40, .inl (upd kt41 x35.toInt.toNat p0))), (qm2, .inl (cI, 40, .inl ks41)), (qm3, .inl (cI, 40, .inl kf41)), (qm4, .inl (cI, 40, .inl kl41)), (qm5, .inl (cL, 40, .inr (.inl ku)))] := hD
      refine lv_aload_n hx hb dX1_put_52 rfl (lv_at hl 1 rfl) ?_
      refine va_get (D := G) (ci := 1) (v := .ref qm2) (C := RX1) (T := TX1) (N := 6) hx hb hts hiX1 hown hK hP 0 rfl rfl 1 (by decide) hf15 (fun _ h9 => h9) rfl dX1_put_53 ?_
      refine lv_iload hx hb dX1_put_56 (lv_at hl 0 rfl) ?_
      refine lv_iload_n hx hb dX1_put_58 rfl (lv_at hl 3 rfl) ?_
      refine va_iast hx hb hK hP hD hS 2 0 rfl rfl (vi_in rfl (by omega) (by omega)) dX1_put_59 (fun H locs hP hD hS => ?_)
      rw [cl_nat rfl (show x35.toInt = ((x35.toInt.toNat : Nat) : Int) by omega)] at hP hD
      have hP : va_P G vwCl [(qm, .inr (1, [.ref qm1, .ref qm2, .ref qm3, .ref qm4, .ref qm5, .int zm41])), (qm1, .inl (cI, 40, .inl (upd kt41 x35.toInt.toNat p0))), (qm2, .inl (cI, 40, .inl (upd ks41 x35.toInt.toNat p1))), (qm3, .inl (cI, 40, .inl kf41)), (qm4, .inl (cI, 40, .inl kl41)), (qm5, .inl (cL, 40, .inr (.inl ku)))] H := hP
      have hD : va_D A [(qm, .inr (1, [.ref qm1, .ref qm2, .ref qm3, .ref qm4, .ref qm5, .int zm41])), (qm1, .inl (cI, 40, .inl (upd kt41 x35.toInt.toNat p0))), (qm2, .inl (cI, 40, .inl (upd ks41 x35.toInt.toNat p1))), (qm3, .inl (cI, 40, .inl kf41)), (qm4, .inl (cI, 40, .inl kl41)), (qm5, .inl (cL, 40, .inr (.inl ku)))] := hD
      refine lv_aload_n hx hb dX1_put_60 rfl (lv_at hl 1 rfl) ?_
      refine va_get (D := G) (ci := 1) (v := .ref qm3) (C := RX1) (T := TX1) (N := 6) hx hb hts hiX1 hown hK hP 0 rfl rfl 2 (by decide) hf18 (fun _ h9 => h9) rfl dX1_put_61 ?_
      refine lv_iload hx hb dX1_put_64 (lv_at hl 0 rfl) ?_
      refine lv_iload_n hx hb dX1_put_66 rfl (lv_at hl 4 rfl) ?_
      refine va_iast hx hb hK hP hD hS 3 0 rfl rfl (vi_in rfl (by omega) (by omega)) dX1_put_67 (fun H locs hP hD hS => ?_)
      rw [cl_nat rfl (show x35.toInt = ((x35.toInt.toNat : Nat) : Int) by omega)] at hP hD
      have hP : va_P G vwCl [(qm, .inr (1, [.ref qm1, .ref qm2, .ref qm3, .ref qm4, .ref qm5, .int zm41])), (qm1, .inl (cI, 40, .inl (upd kt41 x35.toInt.toNat p0))), (qm2, .inl (cI, 40, .inl (upd ks41 x35.toInt.toNat p1))), (qm3, .inl (cI, 40, .inl (upd kf41 x35.toInt.toNat p2))), (qm4, .inl (cI, 40, .inl kl41)), (qm5, .inl (cL, 40, .inr (.inl ku)))] H := hP
      have hD : va_D A [(qm, .inr (1, [.ref qm1, .ref qm2, .ref qm3, .ref qm4, .ref qm5, .int zm41])), (qm1, .inl (cI, 40, .inl (upd kt41 x35.toInt.toNat p0))), (qm2, .inl (cI, 40, .inl (upd ks41 x35.toInt.toNat p1))), (qm3, .inl (cI, 40, .inl (upd kf41 x35.toInt.toNat p2))), (qm4, .inl (cI, 40, .inl kl41)), (qm5, .inl (cL, 40, .inr (.inl ku)))] := hD
      refine lv_aload_n hx hb dX1_put_68 rfl (lv_at hl 1 rfl) ?_
      refine va_get (D := G) (ci := 1) (v := .ref qm4) (C := RX1) (T := TX1) (N := 6) hx hb hts hiX1 hown hK hP 0 rfl rfl 3 (by decide) hf21 (fun _ h9 => h9) rfl dX1_put_69 ?_
      refine lv_iload hx hb dX1_put_72 (lv_at hl 0 rfl) ?_
      refine lv_iload hx hb dX1_put_74 (lv_at hl 5 rfl) ?_
      refine va_iast hx hb hK hP hD hS 4 0 rfl rfl (vi_in rfl (by omega) (by omega)) dX1_put_76 (fun H locs hP hD hS => ?_)
      rw [cl_nat rfl (show x35.toInt = ((x35.toInt.toNat : Nat) : Int) by omega)] at hP hD
      have hP : va_P G vwCl [(qm, .inr (1, [.ref qm1, .ref qm2, .ref qm3, .ref qm4, .ref qm5, .int zm41])), (qm1, .inl (cI, 40, .inl (upd kt41 x35.toInt.toNat p0))), (qm2, .inl (cI, 40, .inl (upd ks41 x35.toInt.toNat p1))), (qm3, .inl (cI, 40, .inl (upd kf41 x35.toInt.toNat p2))), (qm4, .inl (cI, 40, .inl (upd kl41 x35.toInt.toNat p3))), (qm5, .inl (cL, 40, .inr (.inl ku)))] H := hP
      have hD : va_D A [(qm, .inr (1, [.ref qm1, .ref qm2, .ref qm3, .ref qm4, .ref qm5, .int zm41])), (qm1, .inl (cI, 40, .inl (upd kt41 x35.toInt.toNat p0))), (qm2, .inl (cI, 40, .inl (upd ks41 x35.toInt.toNat p1))), (qm3, .inl (cI, 40, .inl (upd kf41 x35.toInt.toNat p2))), (qm4, .inl (cI, 40, .inl (upd kl41 x35.toInt.toNat p3))), (qm5, .inl (cL, 40, .inr (.inl ku)))] := hD
      have pi := put_ins (j := (r2.toInt + 1).toNat) (xv := p0) (sv := p1) (fv := p2) (lv := p3) hOm hSr (by omega) (by omega) bp.2.2.1 bp.2.2.2 hx0 hx1 hx2 hx3 hx4 hni hnb
      have ej : x35.toInt.toNat = (r2.toInt + 1).toNat := by omega
      have a1 : upd kt41 x35.toInt.toNat p0 = insA kt (r2.toInt + 1).toNat nm p0 := by rw [hw41.2.1, ej]; rfl
      have a2 : upd ks41 x35.toInt.toNat p1 = insA ks (r2.toInt + 1).toNat nm p1 := by rw [hw41.2.2.1, ej]; rfl
      have a3 : upd kf41 x35.toInt.toNat p2 = insA kf (r2.toInt + 1).toNat nm p2 := by rw [hw41.2.2.2.1, ej]; rfl
      have a4 : upd kl41 x35.toInt.toNat p3 = insA kl (r2.toInt + 1).toNat nm p3 := by rw [hw41.2.2.2.2, ej]; rfl
      refine lv_aload_n hx hb dX1_put_77 rfl (lv_at hl 1 rfl) ?_
      refine lv_iload hx hb dX1_put_78 (lv_at hl 0 rfl) ?_
      have hPc := hP.sub (ws' := [(qm, .inr (1, [.ref qm1, .ref qm2, .ref qm3, .ref qm4, .ref qm5, .int zm41])), (qm1, .inl (cI, 40, .inl (upd kt41 x35.toInt.toNat p0))), (qm2, .inl (cI, 40, .inl (upd ks41 x35.toInt.toNat p1))), (qm3, .inl (cI, 40, .inl (upd kf41 x35.toInt.toNat p2))), (qm4, .inl (cI, 40, .inl (upd kl41 x35.toInt.toNat p3))), (qm5, .inl (cL, 40, .inr (.inl ku)))]) [0, 1, 2, 3, 4, 5] rfl
      have hDc := hD.sub (ws' := [(qm, .inr (1, [.ref qm1, .ref qm2, .ref qm3, .ref qm4, .ref qm5, .int zm41])), (qm1, .inl (cI, 40, .inl (upd kt41 x35.toInt.toNat p0))), (qm2, .inl (cI, 40, .inl (upd ks41 x35.toInt.toNat p1))), (qm3, .inl (cI, 40, .inl (upd kf41 x35.toInt.toNat p2))), (qm4, .inl (cI, 40, .inl (upd kl41 x35.toInt.toNat p3))), (qm5, .inl (cL, 40, .inr (.inl ku)))]) [0, 1, 2, 3, 4, 5] (by decide) rfl
      have hcc := (ct_X1_renewUnitsBefore l G cI cL H.size qm qm1 qm2 qm3 qm4 qm5 zm41 (upd kt41 x35.toInt.toNat p0) (upd ks41 x35.toInt.toNat p1) (upd kf41 x35.toInt.toNat p2) (upd kl41 x35.toInt.toNat p3) ku x35 (nm + 1) (by omega) (by rw [a1, a2, a3, a4]; exact pi.1) (by rw [a1]; exact pi.2.1) (by omega) ((by rw [a1, a2, a3, a4]; exact fun k hk h => okU_keep hU (by omega) pi.2.2 (by rw [insA_lt (by omega)]) (by have := bp.2.2.1 k (by omega) (by omega); omega) (by have := hrg k (by omega); omega))))
      refine rw_callv (wr := ([] : va_W)) (va_runV (As := [.int x35]) (rest := []) ⟨hx, hb, hml, hown, hts⟩ hcc (cwV 1 hts gX1_put_X1_renewUnitsBefore rfl rfl rfl (by decide +kernel) ⟨Nat.le_of_ble_eq_true rfl, Nat.le_of_ble_eq_true rfl⟩) ⟨pre_blind, va_recv hK hPc (ci := 1) (q0 := 0) rfl rfl, pre_pass hK hN hPc hDc⟩ rfl rfl hl.1 rfl (lv_room (Nat.le_of_ble_eq_true rfl)) dX1_put_80 ⟨Nat.le_of_ble_eq_true rfl, Nat.le_of_ble_eq_true rfl⟩) hP hD hS hA [0, 1, 2, 3, 4, 5] [] rfl rfl (by decide) (by decide) (fun u80 H locs hw80 hP hD hS => ?_)
      obtain ⟨ku80, rfl⟩ : ∃ z, z = u80 := ⟨_, rfl⟩
      have hP : va_P G vwCl [(qm, .inr (1, [.ref qm1, .ref qm2, .ref qm3, .ref qm4, .ref qm5, .int zm41])), (qm1, .inl (cI, 40, .inl ((upd kt41 x35.toInt.toNat p0)))), (qm2, .inl (cI, 40, .inl ((upd ks41 x35.toInt.toNat p1)))), (qm3, .inl (cI, 40, .inl ((upd kf41 x35.toInt.toNat p2)))), (qm4, .inl (cI, 40, .inl ((upd kl41 x35.toInt.toNat p3)))), (qm5, .inl (cL, 40, .inr (.inl ku80)))] H := hP.sub [0, 1, 2, 3, 4, 5] rfl
      have hD : va_D A [(qm, .inr (1, [.ref qm1, .ref qm2, .ref qm3, .ref qm4, .ref qm5, .int zm41])), (qm1, .inl (cI, 40, .inl ((upd kt41 x35.toInt.toNat p0)))), (qm2, .inl (cI, 40, .inl ((upd ks41 x35.toInt.toNat p1)))), (qm3, .inl (cI, 40, .inl ((upd kf41 x35.toInt.toNat p2)))), (qm4, .inl (cI, 40, .inl ((upd kl41 x35.toInt.toNat p3)))), (qm5, .inl (cL, 40, .inr (.inl ku80)))] := hD.sub [0, 1, 2, 3, 4, 5] (by decide) rfl
      try dsimp only at hw80
      refine lv_aload_n hx hb dX1_put_83 rfl (lv_at hl 1 rfl) ?_
      refine va_get (D := G) (ci := 1) (v := .int zm41) (C := RX1) (T := TX1) (N := 6) hx hb hts hiX1 hown hK hP 0 rfl rfl 5 (by decide) hf28 (fun _ h9 => h9) rfl dX1_put_84 ?_
      exact W.iret (v := zm41) hx hb hr (fun t ht hW => ⟨⟨zm41, (zm41, (upd kt41 x35.toInt.toNat p0), (upd ks41 x35.toInt.toNat p1), (upd kf41 x35.toInt.toNat p2), (upd kl41 x35.toInt.toNat p3), ku80), rfl, (by (try dsimp only); exact (by have h8 := hw80; rw [a1, a2, a3, a4] at h8 ⊢; exact ⟨nm + 1, by omega, Or.inr (Or.inr ⟨(r2.toInt + 1).toNat, by omega, bne, by omega, by omega, rfl, rfl, rfl, rfl, rfl⟩), pi.1, pi.2.1, h8⟩)), by rw [ht]; exact hP, hD⟩, hS.F ht⟩) hS.2.2 dX1_put_87
    · have k29 : (40 : Int) ≤ zm.toInt := i_nlt rfl (show ((40 : Int32)).toInt = 40 by decide) c29
      refine lv_bipush (v := (-4)) hx hb dX1_put_32 (by decide) ?_
      exact W.iret (v := (-4)) hx hb hr (fun t ht hW => ⟨⟨(-4), (zm, kt, ks, kf, kl, ku), rfl, (by (try dsimp only); exact ⟨nm, hnm, Or.inr (Or.inl ⟨bne, by omega, by omega, rfl, rfl, rfl, rfl, rfl⟩), hOm, hSr, hU⟩), by rw [ht]; exact hP, hD⟩, hS.F ht⟩) hS.2.2 dX1_put_34
  · have k9 : (0 : Int) ≤ r2.toInt := i_nlt rfl (show ((0 : Int32)).toInt = 0 by decide) c9
    have bg := bi_get hw2 k9
    refine lv_aload_n hx hb dX1_put_12 rfl (lv_at hl 1 rfl) ?_
    refine va_get (D := G) (ci := 1) (v := .ref qm1) (C := RX1) (T := TX1) (N := 6) hx hb hts hiX1 hown hK hP 0 rfl rfl 0 (by decide) hf9 (fun _ h9 => h9) rfl dX1_put_13 ?_
    refine lv_iload hx hb dX1_put_16 (lv_at hl 0 rfl) ?_
    refine va_iald hx hb hK hP 1 0 rfl rfl (vi_in rfl (by omega) (by omega)) dX1_put_18 ?_
    refine lv_topi (fun x18 ex18 => ?_)
    have ex18 : x18 = kt r2.toInt.toNat := by rw [ex18]; exact congrArg _ (cl_nat rfl (by omega))
    have tx18 : x18.toInt = (kt r2.toInt.toNat).toInt := by rw [ex18]
    have hrg_x18 := hrg r2.toInt.toNat (by omega)
    refine lv_iload_n hx hb dX1_put_19 rfl (lv_at hl 2 rfl) ?_
    refine lv_icmp_eq (tgt := 44) hx hb dX1_put_20 (by decide) (fun c20 => ?_) (fun c20 => ?_)
    · have k20 : (x18.toInt : Int) = p0.toInt := i_eq rfl rfl c20
      refine lv_aload_n hx hb dX1_put_44 rfl (lv_at hl 1 rfl) ?_
      refine va_get (D := G) (ci := 1) (v := .ref qm1) (C := RX1) (T := TX1) (N := 6) hx hb hts hiX1 hown hK hP 0 rfl rfl 0 (by decide) hf9 (fun _ h9 => h9) rfl dX1_put_45 ?_
      refine lv_iload hx hb dX1_put_48 (lv_at hl 0 rfl) ?_
      refine lv_iload_n hx hb dX1_put_50 rfl (lv_at hl 2 rfl) ?_
      refine va_iast hx hb hK hP hD hS 1 0 rfl rfl (vi_in rfl (by omega) (by omega)) dX1_put_51 (fun H locs hP hD hS => ?_)
      rw [cl_nat rfl (show r2.toInt = ((r2.toInt.toNat : Nat) : Int) by omega)] at hP hD
      have hP : va_P G vwCl [(qm, .inr (1, [.ref qm1, .ref qm2, .ref qm3, .ref qm4, .ref qm5, .int zm])), (qm1, .inl (cI, 40, .inl (upd kt r2.toInt.toNat p0))), (qm2, .inl (cI, 40, .inl ks)), (qm3, .inl (cI, 40, .inl kf)), (qm4, .inl (cI, 40, .inl kl)), (qm5, .inl (cL, 40, .inr (.inl ku)))] H := hP
      have hD : va_D A [(qm, .inr (1, [.ref qm1, .ref qm2, .ref qm3, .ref qm4, .ref qm5, .int zm])), (qm1, .inl (cI, 40, .inl (upd kt r2.toInt.toNat p0))), (qm2, .inl (cI, 40, .inl ks)), (qm3, .inl (cI, 40, .inl kf)), (qm4, .inl (cI, 40, .inl kl)), (qm5, .inl (cL, 40, .inr (.inl ku)))] := hD
      refine lv_aload_n hx hb dX1_put_52 rfl (lv_at hl 1 rfl) ?_
      refine va_get (D := G) (ci := 1) (v := .ref qm2) (C := RX1) (T := TX1) (N := 6) hx hb hts hiX1 hown hK hP 0 rfl rfl 1 (by decide) hf15 (fun _ h9 => h9) rfl dX1_put_53 ?_
      refine lv_iload hx hb dX1_put_56 (lv_at hl 0 rfl) ?_
      refine lv_iload_n hx hb dX1_put_58 rfl (lv_at hl 3 rfl) ?_
      refine va_iast hx hb hK hP hD hS 2 0 rfl rfl (vi_in rfl (by omega) (by omega)) dX1_put_59 (fun H locs hP hD hS => ?_)
      rw [cl_nat rfl (show r2.toInt = ((r2.toInt.toNat : Nat) : Int) by omega)] at hP hD
      have hP : va_P G vwCl [(qm, .inr (1, [.ref qm1, .ref qm2, .ref qm3, .ref qm4, .ref qm5, .int zm])), (qm1, .inl (cI, 40, .inl (upd kt r2.toInt.toNat p0))), (qm2, .inl (cI, 40, .inl (upd ks r2.toInt.toNat p1))), (qm3, .inl (cI, 40, .inl kf)), (qm4, .inl (cI, 40, .inl kl)), (qm5, .inl (cL, 40, .inr (.inl ku)))] H := hP
      have hD : va_D A [(qm, .inr (1, [.ref qm1, .ref qm2, .ref qm3, .ref qm4, .ref qm5, .int zm])), (qm1, .inl (cI, 40, .inl (upd kt r2.toInt.toNat p0))), (qm2, .inl (cI, 40, .inl (upd ks r2.toInt.toNat p1))), (qm3, .inl (cI, 40, .inl kf)), (qm4, .inl (cI, 40, .inl kl)), (qm5, .inl (cL, 40, .inr (.inl ku)))] := hD
      refine lv_aload_n hx hb dX1_put_60 rfl (lv_at hl 1 rfl) ?_
      refine va_get (D := G) (ci := 1) (v := .ref qm3) (C := RX1) (T := TX1) (N := 6) hx hb hts hiX1 hown hK hP 0 rfl rfl 2 (by decide) hf18 (fun _ h9 => h9) rfl dX1_put_61 ?_
      refine lv_iload hx hb dX1_put_64 (lv_at hl 0 rfl) ?_
      refine lv_iload_n hx hb dX1_put_66 rfl (lv_at hl 4 rfl) ?_
      refine va_iast hx hb hK hP hD hS 3 0 rfl rfl (vi_in rfl (by omega) (by omega)) dX1_put_67 (fun H locs hP hD hS => ?_)
      rw [cl_nat rfl (show r2.toInt = ((r2.toInt.toNat : Nat) : Int) by omega)] at hP hD
      have hP : va_P G vwCl [(qm, .inr (1, [.ref qm1, .ref qm2, .ref qm3, .ref qm4, .ref qm5, .int zm])), (qm1, .inl (cI, 40, .inl (upd kt r2.toInt.toNat p0))), (qm2, .inl (cI, 40, .inl (upd ks r2.toInt.toNat p1))), (qm3, .inl (cI, 40, .inl (upd kf r2.toInt.toNat p2))), (qm4, .inl (cI, 40, .inl kl)), (qm5, .inl (cL, 40, .inr (.inl ku)))] H := hP
      have hD : va_D A [(qm, .inr (1, [.ref qm1, .ref qm2, .ref qm3, .ref qm4, .ref qm5, .int zm])), (qm1, .inl (cI, 40, .inl (upd kt r2.toInt.toNat p0))), (qm2, .inl (cI, 40, .inl (upd ks r2.toInt.toNat p1))), (qm3, .inl (cI, 40, .inl (upd kf r2.toInt.toNat p2))), (qm4, .inl (cI, 40, .inl kl)), (qm5, .inl (cL, 40, .inr (.inl ku)))] := hD
      refine lv_aload_n hx hb dX1_put_68 rfl (lv_at hl 1 rfl) ?_
      refine va_get (D := G) (ci := 1) (v := .ref qm4) (C := RX1) (T := TX1) (N := 6) hx hb hts hiX1 hown hK hP 0 rfl rfl 3 (by decide) hf21 (fun _ h9 => h9) rfl dX1_put_69 ?_
      refine lv_iload hx hb dX1_put_72 (lv_at hl 0 rfl) ?_
      refine lv_iload hx hb dX1_put_74 (lv_at hl 5 rfl) ?_
      refine va_iast hx hb hK hP hD hS 4 0 rfl rfl (vi_in rfl (by omega) (by omega)) dX1_put_76 (fun H locs hP hD hS => ?_)
      rw [cl_nat rfl (show r2.toInt = ((r2.toInt.toNat : Nat) : Int) by omega)] at hP hD
      have hP : va_P G vwCl [(qm, .inr (1, [.ref qm1, .ref qm2, .ref qm3, .ref qm4, .ref qm5, .int zm])), (qm1, .inl (cI, 40, .inl (upd kt r2.toInt.toNat p0))), (qm2, .inl (cI, 40, .inl (upd ks r2.toInt.toNat p1))), (qm3, .inl (cI, 40, .inl (upd kf r2.toInt.toNat p2))), (qm4, .inl (cI, 40, .inl (upd kl r2.toInt.toNat p3))), (qm5, .inl (cL, 40, .inr (.inl ku)))] H := hP
      have hD : va_D A [(qm, .inr (1, [.ref qm1, .ref qm2, .ref qm3, .ref qm4, .ref qm5, .int zm])), (qm1, .inl (cI, 40, .inl (upd kt r2.toInt.toNat p0))), (qm2, .inl (cI, 40, .inl (upd ks r2.toInt.toNat p1))), (qm3, .inl (cI, 40, .inl (upd kf r2.toInt.toNat p2))), (qm4, .inl (cI, 40, .inl (upd kl r2.toInt.toNat p3))), (qm5, .inl (cL, 40, .inr (.inl ku)))] := hD
      have pi := put_hit (j := r2.toInt.toNat) (xv := p0) (sv := p1) (fv := p2) (lv := p3) hOm hSr bg.1 (by omega) hx1 hx2 hx3 hx4 hnb
      refine lv_aload_n hx hb dX1_put_77 rfl (lv_at hl 1 rfl) ?_
      refine lv_iload hx hb dX1_put_78 (lv_at hl 0 rfl) ?_
      have hPc := hP.sub (ws' := [(qm, .inr (1, [.ref qm1, .ref qm2, .ref qm3, .ref qm4, .ref qm5, .int zm])), (qm1, .inl (cI, 40, .inl (upd kt r2.toInt.toNat p0))), (qm2, .inl (cI, 40, .inl (upd ks r2.toInt.toNat p1))), (qm3, .inl (cI, 40, .inl (upd kf r2.toInt.toNat p2))), (qm4, .inl (cI, 40, .inl (upd kl r2.toInt.toNat p3))), (qm5, .inl (cL, 40, .inr (.inl ku)))]) [0, 1, 2, 3, 4, 5] rfl
      have hDc := hD.sub (ws' := [(qm, .inr (1, [.ref qm1, .ref qm2, .ref qm3, .ref qm4, .ref qm5, .int zm])), (qm1, .inl (cI, 40, .inl (upd kt r2.toInt.toNat p0))), (qm2, .inl (cI, 40, .inl (upd ks r2.toInt.toNat p1))), (qm3, .inl (cI, 40, .inl (upd kf r2.toInt.toNat p2))), (qm4, .inl (cI, 40, .inl (upd kl r2.toInt.toNat p3))), (qm5, .inl (cL, 40, .inr (.inl ku)))]) [0, 1, 2, 3, 4, 5] (by decide) rfl
      have hcc := (ct_X1_renewUnitsBefore l G cI cL H.size qm qm1 qm2 qm3 qm4 qm5 zm (upd kt r2.toInt.toNat p0) (upd ks r2.toInt.toNat p1) (upd kf r2.toInt.toNat p2) (upd kl r2.toInt.toNat p3) ku r2 nm hnm pi.1 pi.2.1 (by omega) ((fun k hk h => okU_keep hU hk pi.2.2 (by rw [pk_un (by omega)]) (by have := srt_le hSr (show k ≤ r2.toInt.toNat by omega) bg.1; omega) (by have := hrg k hk; omega))))
      refine rw_callv (wr := ([] : va_W)) (va_runV (As := [.int r2]) (rest := []) ⟨hx, hb, hml, hown, hts⟩ hcc (cwV 1 hts gX1_put_X1_renewUnitsBefore rfl rfl rfl (by decide +kernel) ⟨Nat.le_of_ble_eq_true rfl, Nat.le_of_ble_eq_true rfl⟩) ⟨pre_blind, va_recv hK hPc (ci := 1) (q0 := 0) rfl rfl, pre_pass hK hN hPc hDc⟩ rfl rfl hl.1 rfl (lv_room (Nat.le_of_ble_eq_true rfl)) dX1_put_80 ⟨Nat.le_of_ble_eq_true rfl, Nat.le_of_ble_eq_true rfl⟩) hP hD hS hA [0, 1, 2, 3, 4, 5] [] rfl rfl (by decide) (by decide) (fun u80_2 H locs hw80_2 hP hD hS => ?_)
      obtain ⟨ku80_2, rfl⟩ : ∃ z, z = u80_2 := ⟨_, rfl⟩
      have hP : va_P G vwCl [(qm, .inr (1, [.ref qm1, .ref qm2, .ref qm3, .ref qm4, .ref qm5, .int zm])), (qm1, .inl (cI, 40, .inl ((upd kt r2.toInt.toNat p0)))), (qm2, .inl (cI, 40, .inl ((upd ks r2.toInt.toNat p1)))), (qm3, .inl (cI, 40, .inl ((upd kf r2.toInt.toNat p2)))), (qm4, .inl (cI, 40, .inl ((upd kl r2.toInt.toNat p3)))), (qm5, .inl (cL, 40, .inr (.inl ku80_2)))] H := hP.sub [0, 1, 2, 3, 4, 5] rfl
      have hD : va_D A [(qm, .inr (1, [.ref qm1, .ref qm2, .ref qm3, .ref qm4, .ref qm5, .int zm])), (qm1, .inl (cI, 40, .inl ((upd kt r2.toInt.toNat p0)))), (qm2, .inl (cI, 40, .inl ((upd ks r2.toInt.toNat p1)))), (qm3, .inl (cI, 40, .inl ((upd kf r2.toInt.toNat p2)))), (qm4, .inl (cI, 40, .inl ((upd kl r2.toInt.toNat p3)))), (qm5, .inl (cL, 40, .inr (.inl ku80_2)))] := hD.sub [0, 1, 2, 3, 4, 5] (by decide) rfl
      try dsimp only at hw80_2
      refine lv_aload_n hx hb dX1_put_83 rfl (lv_at hl 1 rfl) ?_
      refine va_get (D := G) (ci := 1) (v := .int zm) (C := RX1) (T := TX1) (N := 6) hx hb hts hiX1 hown hK hP 0 rfl rfl 5 (by decide) hf28 (fun _ h9 => h9) rfl dX1_put_84 ?_
      exact W.iret (v := zm) hx hb hr (fun t ht hW => ⟨⟨zm, (zm, (upd kt r2.toInt.toNat p0), (upd ks r2.toInt.toNat p1), (upd kf r2.toInt.toNat p2), (upd kl r2.toInt.toNat p3), ku80_2), rfl, (by (try dsimp only); exact ⟨nm, hnm, Or.inl ⟨r2.toInt.toNat, bg.1, by omega, by omega, rfl, rfl, rfl, rfl, rfl⟩, pi.1, pi.2.1, hw80_2⟩), by rw [ht]; exact hP, hD⟩, hS.F ht⟩) hS.2.2 dX1_put_87
    · have k20 : (x18.toInt : Int) ≠ p0.toInt := i_ne rfl rfl c20
      have bp := bi_place hSr hw2 (by omega)
      have bne : ∀ k : Nat, k < nm → (kt k).toInt ≠ p0.toInt := fun k hk e => by
        rcases Nat.lt_or_ge k (r2.toInt + 1).toNat with q | q
        · have := bp.2.2.1 k hk q; omega
        · have := bp.2.2.2 k hk q; omega
      refine lv_aload_n hx hb dX1_put_23 rfl (lv_at hl 1 rfl) ?_
      refine va_get (D := G) (ci := 1) (v := .int zm) (C := RX1) (T := TX1) (N := 6) hx hb hts hiX1 hown hK hP 0 rfl rfl 5 (by decide) hf28 (fun _ h9 => h9) rfl dX1_put_24 ?_
      refine lv_bipush (v := 40) hx hb dX1_put_27 (by decide) ?_
      refine lv_icmp_lt (tgt := 35) hx hb dX1_put_29 (by decide) (fun c29 => ?_) (fun c29 => ?_)
      · have k29 : (zm.toInt : Int) < 40 := i_lt rfl (show ((40 : Int32)).toInt = 40 by decide) c29
        obtain ⟨x35_2, ex35_2⟩ : ∃ y : Int32, y = r2 + 1 := ⟨_, rfl⟩
        have tx35_2 : x35_2.toInt = r2.toInt + 1 := by rw [ex35_2]; exact ti_add rfl (by decide) (by omega) (by omega)
        refine lv_iinc (v := x35_2) (lv' := [(5, .int x35_2), (0, .ref qm), (1, .int p0), (2, .int p1), (3, .int p2), (4, .int p3)]) hx hb dX1_put_35 hl (k := 0) rfl (by rw [ex35_2]; rfl) (by decide) rfl (fun ls hl => ?_)
        refine lv_aload_n hx hb dX1_put_38 rfl (lv_at hl 1 rfl) ?_
        refine lv_iload hx hb dX1_put_39 (lv_at hl 0 rfl) ?_
        have hPc := hP.sub (ws' := [(qm, .inr (1, [.ref qm1, .ref qm2, .ref qm3, .ref qm4, .ref qm5, .int zm])), (qm1, .inl (cI, 40, .inl kt)), (qm2, .inl (cI, 40, .inl ks)), (qm3, .inl (cI, 40, .inl kf)), (qm4, .inl (cI, 40, .inl kl)), (qm5, .inl (cL, 40, .inr (.inl ku)))]) [0, 1, 2, 3, 4, 5] rfl
        have hDc := hD.sub (ws' := [(qm, .inr (1, [.ref qm1, .ref qm2, .ref qm3, .ref qm4, .ref qm5, .int zm])), (qm1, .inl (cI, 40, .inl kt)), (qm2, .inl (cI, 40, .inl ks)), (qm3, .inl (cI, 40, .inl kf)), (qm4, .inl (cI, 40, .inl kl)), (qm5, .inl (cL, 40, .inr (.inl ku)))]) [0, 1, 2, 3, 4, 5] (by decide) rfl
        have hcc := (ct_X1_openRow l G cI cL H.size qm qm1 qm2 qm3 qm4 qm5 zm kt ks kf kl ku x35_2 nm hnm (by omega) (by omega))
        refine rw_callv (wr := ([] : va_W)) (va_runV (As := [.int x35_2]) (rest := []) ⟨hx, hb, hml, hown, hts⟩ hcc (cwV 1 hts gX1_put_X1_openRow rfl rfl rfl (by decide +kernel) ⟨Nat.le_of_ble_eq_true rfl, Nat.le_of_ble_eq_true rfl⟩) ⟨pre_blind, va_recv hK hPc (ci := 1) (q0 := 0) rfl rfl, pre_pass hK hN hPc hDc⟩ rfl rfl hl.1 rfl (lv_room (Nat.le_of_ble_eq_true rfl)) dX1_put_41 ⟨Nat.le_of_ble_eq_true rfl, Nat.le_of_ble_eq_true rfl⟩) hP hD hS hA [0, 1, 2, 3, 4, 5] [] rfl rfl (by decide) (by decide) (fun u41_2 H locs hw41_2 hP hD hS => ?_)
        obtain ⟨zm41_2, kt41_2, ks41_2, kf41_2, kl41_2⟩ := u41_2
        have hP : va_P G vwCl [(qm, .inr (1, [.ref qm1, .ref qm2, .ref qm3, .ref qm4, .ref qm5, .int zm41_2])), (qm1, .inl (cI, 40, .inl kt41_2)), (qm2, .inl (cI, 40, .inl ks41_2)), (qm3, .inl (cI, 40, .inl kf41_2)), (qm4, .inl (cI, 40, .inl kl41_2)), (qm5, .inl (cL, 40, .inr (.inl ku)))] H := hP.sub [0, 1, 2, 3, 4, 5] rfl
        have hD : va_D A [(qm, .inr (1, [.ref qm1, .ref qm2, .ref qm3, .ref qm4, .ref qm5, .int zm41_2])), (qm1, .inl (cI, 40, .inl kt41_2)), (qm2, .inl (cI, 40, .inl ks41_2)), (qm3, .inl (cI, 40, .inl kf41_2)), (qm4, .inl (cI, 40, .inl kl41_2)), (qm5, .inl (cL, 40, .inr (.inl ku)))] := hD.sub [0, 1, 2, 3, 4, 5] (by decide) rfl
        try dsimp only at hw41_2
        refine lv_aload_n hx hb dX1_put_44 rfl (lv_at hl 1 rfl) ?_
        refine va_get (D := G) (ci := 1) (v := .ref qm1) (C := RX1) (T := TX1) (N := 6) hx hb hts hiX1 hown hK hP 0 rfl rfl 0 (by decide) hf9 (fun _ h9 => h9) rfl dX1_put_45 ?_
        refine lv_iload hx hb dX1_put_48 (lv_at hl 0 rfl) ?_
        refine lv_iload_n hx hb dX1_put_50 rfl (lv_at hl 2 rfl) ?_
        refine va_iast hx hb hK hP hD hS 1 0 rfl rfl (vi_in rfl (by omega) (by omega)) dX1_put_51 (fun H locs hP hD hS => ?_)
        rw [cl_nat rfl (show x35_2.toInt = ((x35_2.toInt.toNat : Nat) : Int) by omega)] at hP hD
        have hP : va_P G vwCl [(qm, .inr (1, [.ref qm1, .ref qm2, .ref qm3, .ref qm4, .ref qm5, .int zm41_2])), (qm1, .inl (cI, 40, .inl (upd kt41_2 x35_2.toInt.toNat p0))), (qm2, .inl (cI, 40, .inl ks41_2)), (qm3, .inl (cI, 40, .inl kf41_2)), (qm4, .inl (cI, 40, .inl kl41_2)), (qm5, .inl (cL, 40, .inr (.inl ku)))] H := hP
        have hD : va_D A [(qm, .inr (1, [.ref qm1, .ref qm2, .ref qm3, .ref qm4, .ref qm5, .int zm41_2])), (qm1, .inl (cI, 40, .inl (upd kt41_2 x35_2.toInt.toNat p0))), (qm2, .inl (cI, 40, .inl ks41_2)), (qm3, .inl (cI, 40, .inl kf41_2)), (qm4, .inl (cI, 40, .inl kl41_2)), (qm5, .inl (cL, 40, .inr (.inl ku)))] := hD
        refine lv_aload_n hx hb dX1_put_52 rfl (lv_at hl 1 rfl) ?_
        refine va_get (D := G) (ci := 1) (v := .ref qm2) (C := RX1) (T := TX1) (N := 6) hx hb hts hiX1 hown hK hP 0 rfl rfl 1 (by decide) hf15 (fun _ h9 => h9) rfl dX1_put_53 ?_
        refine lv_iload hx hb dX1_put_56 (lv_at hl 0 rfl) ?_
        refine lv_iload_n hx hb dX1_put_58 rfl (lv_at hl 3 rfl) ?_
        refine va_iast hx hb hK hP hD hS 2 0 rfl rfl (vi_in rfl (by omega) (by omega)) dX1_put_59 (fun H locs hP hD hS => ?_)
        rw [cl_nat rfl (show x35_2.toInt = ((x35_2.toInt.toNat : Nat) : Int) by omega)] at hP hD
        have hP : va_P G vwCl [(qm, .inr (1, [.ref qm1, .ref qm2, .ref qm3, .ref qm4, .ref qm5, .int zm41_2])), (qm1, .inl (cI, 40, .inl (upd kt41_2 x35_2.toInt.toNat p0))), (qm2, .inl (cI, 40, .inl (upd ks41_2 x35_2.toInt.toNat p1))), (qm3, .inl (cI, 40, .inl kf41_2)), (qm4, .inl (cI, 40, .inl kl41_2)), (qm5, .inl (cL, 40, .inr (.inl ku)))] H := hP
        have hD : va_D A [(qm, .inr (1, [.ref qm1, .ref qm2, .ref qm3, .ref qm4, .ref qm5, .int zm41_2])), (qm1, .inl (cI, 40, .inl (upd kt41_2 x35_2.toInt.toNat p0))), (qm2, .inl (cI, 40, .inl (upd ks41_2 x35_2.toInt.toNat p1))), (qm3, .inl (cI, 40, .inl kf41_2)), (qm4, .inl (cI, 40, .inl kl41_2)), (qm5, .inl (cL, 40, .inr (.inl ku)))] := hD
        refine lv_aload_n hx hb dX1_put_60 rfl (lv_at hl 1 rfl) ?_
        refine va_get (D := G) (ci := 1) (v := .ref qm3) (C := RX1) (T := TX1) (N := 6) hx hb hts hiX1 hown hK hP 0 rfl rfl 2 (by decide) hf18 (fun _ h9 => h9) rfl dX1_put_61 ?_
        refine lv_iload hx hb dX1_put_64 (lv_at hl 0 rfl) ?_
        refine lv_iload_n hx hb dX1_put_66 rfl (lv_at hl 4 rfl) ?_
        refine va_iast hx hb hK hP hD hS 3 0 rfl rfl (vi_in rfl (by omega) (by omega)) dX1_put_67 (fun H locs hP hD hS => ?_)
        rw [cl_nat rfl (show x35_2.toInt = ((x35_2.toInt.toNat : Nat) : Int) by omega)] at hP hD
        have hP : va_P G vwCl [(qm, .inr (1, [.ref qm1, .ref qm2, .ref qm3, .ref qm4, .ref qm5, .int zm41_2])), (qm1, .inl (cI, 40, .inl (upd kt41_2 x35_2.toInt.toNat p0))), (qm2, .inl (cI, 40, .inl (upd ks41_2 x35_2.toInt.toNat p1))), (qm3, .inl (cI, 40, .inl (upd kf41_2 x35_2.toInt.toNat p2))), (qm4, .inl (cI, 40, .inl kl41_2)), (qm5, .inl (cL, 40, .inr (.inl ku)))] H := hP
        have hD : va_D A [(qm, .inr (1, [.ref qm1, .ref qm2, .ref qm3, .ref qm4, .ref qm5, .int zm41_2])), (qm1, .inl (cI, 40, .inl (upd kt41_2 x35_2.toInt.toNat p0))), (qm2, .inl (cI, 40, .inl (upd ks41_2 x35_2.toInt.toNat p1))), (qm3, .inl (cI, 40, .inl (upd kf41_2 x35_2.toInt.toNat p2))), (qm4, .inl (cI, 40, .inl kl41_2)), (qm5, .inl (cL, 40, .inr (.inl ku)))] := hD
        refine lv_aload_n hx hb dX1_put_68 rfl (lv_at hl 1 rfl) ?_
        refine va_get (D := G) (ci := 1) (v := .ref qm4) (C := RX1) (T := TX1) (N := 6) hx hb hts hiX1 hown hK hP 0 rfl rfl 3 (by decide) hf21 (fun _ h9 => h9) rfl dX1_put_69 ?_
        refine lv_iload hx hb dX1_put_72 (lv_at hl 0 rfl) ?_
        refine lv_iload hx hb dX1_put_74 (lv_at hl 5 rfl) ?_
        refine va_iast hx hb hK hP hD hS 4 0 rfl rfl (vi_in rfl (by omega) (by omega)) dX1_put_76 (fun H locs hP hD hS => ?_)
        rw [cl_nat rfl (show x35_2.toInt = ((x35_2.toInt.toNat : Nat) : Int) by omega)] at hP hD
        have hP : va_P G vwCl [(qm, .inr (1, [.ref qm1, .ref qm2, .ref qm3, .ref qm4, .ref qm5, .int zm41_2])), (qm1, .inl (cI, 40, .inl (upd kt41_2 x35_2.toInt.toNat p0))), (qm2, .inl (cI, 40, .inl (upd ks41_2 x35_2.toInt.toNat p1))), (qm3, .inl (cI, 40, .inl (upd kf41_2 x35_2.toInt.toNat p2))), (qm4, .inl (cI, 40, .inl (upd kl41_2 x35_2.toInt.toNat p3))), (qm5, .inl (cL, 40, .inr (.inl ku)))] H := hP
        have hD : va_D A [(qm, .inr (1, [.ref qm1, .ref qm2, .ref qm3, .ref qm4, .ref qm5, .int zm41_2])), (qm1, .inl (cI, 40, .inl (upd kt41_2 x35_2.toInt.toNat p0))), (qm2, .inl (cI, 40, .inl (upd ks41_2 x35_2.toInt.toNat p1))), (qm3, .inl (cI, 40, .inl (upd kf41_2 x35_2.toInt.toNat p2))), (qm4, .inl (cI, 40, .inl (upd kl41_2 x35_2.toInt.toNat p3))), (qm5, .inl (cL, 40, .inr (.inl ku)))] := hD
        have pi := put_ins (j := (r2.toInt + 1).toNat) (xv := p0) (sv := p1) (fv := p2) (lv := p3) hOm hSr (by omega) (by omega) bp.2.2.1 bp.2.2.2 hx0 hx1 hx2 hx3 hx4 hni hnb
        have ej : x35_2.toInt.toNat = (r2.toInt + 1).toNat := by omega
        have a1 : upd kt41_2 x35_2.toInt.toNat p0 = insA kt (r2.toInt + 1).toNat nm p0 := by rw [hw41_2.2.1, ej]; rfl
        have a2 : upd ks41_2 x35_2.toInt.toNat p1 = insA ks (r2.toInt + 1).toNat nm p1 := by rw [hw41_2.2.2.1, ej]; rfl
        have a3 : upd kf41_2 x35_2.toInt.toNat p2 = insA kf (r2.toInt + 1).toNat nm p2 := by rw [hw41_2.2.2.2.1, ej]; rfl
        have a4 : upd kl41_2 x35_2.toInt.toNat p3 = insA kl (r2.toInt + 1).toNat nm p3 := by rw [hw41_2.2.2.2.2, ej]; rfl
        refine lv_aload_n hx hb dX1_put_77 rfl (lv_at hl 1 rfl) ?_
        refine lv_iload hx hb dX1_put_78 (lv_at hl 0 rfl) ?_
        have hPc := hP.sub (ws' := [(qm, .inr (1, [.ref qm1, .ref qm2, .ref qm3, .ref qm4, .ref qm5, .int zm41_2])), (qm1, .inl (cI, 40, .inl (upd kt41_2 x35_2.toInt.toNat p0))), (qm2, .inl (cI, 40, .inl (upd ks41_2 x35_2.toInt.toNat p1))), (qm3, .inl (cI, 40, .inl (upd kf41_2 x35_2.toInt.toNat p2))), (qm4, .inl (cI, 40, .inl (upd kl41_2 x35_2.toInt.toNat p3))), (qm5, .inl (cL, 40, .inr (.inl ku)))]) [0, 1, 2, 3, 4, 5] rfl
        have hDc := hD.sub (ws' := [(qm, .inr (1, [.ref qm1, .ref qm2, .ref qm3, .ref qm4, .ref qm5, .int zm41_2])), (qm1, .inl (cI, 40, .inl (upd kt41_2 x35_2.toInt.toNat p0))), (qm2, .inl (cI, 40, .inl (upd ks41_2 x35_2.toInt.toNat p1))), (qm3, .inl (cI, 40, .inl (upd kf41_2 x35_2.toInt.toNat p2))), (qm4, .inl (cI, 40, .inl (upd kl41_2 x35_2.toInt.toNat p3))), (qm5, .inl (cL, 40, .inr (.inl ku)))]) [0, 1, 2, 3, 4, 5] (by decide) rfl
        have hcc := (ct_X1_renewUnitsBefore l G cI cL H.size qm qm1 qm2 qm3 qm4 qm5 zm41_2 (upd kt41_2 x35_2.toInt.toNat p0) (upd ks41_2 x35_2.toInt.toNat p1) (upd kf41_2 x35_2.toInt.toNat p2) (upd kl41_2 x35_2.toInt.toNat p3) ku x35_2 (nm + 1) (by omega) (by rw [a1, a2, a3, a4]; exact pi.1) (by rw [a1]; exact pi.2.1) (by omega) ((by rw [a1, a2, a3, a4]; exact fun k hk h => okU_keep hU (by omega) pi.2.2 (by rw [insA_lt (by omega)]) (by have := bp.2.2.1 k (by omega) (by omega); omega) (by have := hrg k (by omega); omega))))
        refine rw_callv (wr := ([] : va_W)) (va_runV (As := [.int x35_2]) (rest := []) ⟨hx, hb, hml, hown, hts⟩ hcc (cwV 1 hts gX1_put_X1_renewUnitsBefore rfl rfl rfl (by decide +kernel) ⟨Nat.le_of_ble_eq_true rfl, Nat.le_of_ble_eq_true rfl⟩) ⟨pre_blind, va_recv hK hPc (ci := 1) (q0 := 0) rfl rfl, pre_pass hK hN hPc hDc⟩ rfl rfl hl.1 rfl (lv_room (Nat.le_of_ble_eq_true rfl)) dX1_put_80 ⟨Nat.le_of_ble_eq_true rfl, Nat.le_of_ble_eq_true rfl⟩) hP hD hS hA [0, 1, 2, 3, 4, 5] [] rfl rfl (by decide) (by decide) (fun u80_3 H locs hw80_3 hP hD hS => ?_)
        obtain ⟨ku80_3, rfl⟩ : ∃ z, z = u80_3 := ⟨_, rfl⟩
        have hP : va_P G vwCl [(qm, .inr (1, [.ref qm1, .ref qm2, .ref qm3, .ref qm4, .ref qm5, .int zm41_2])), (qm1, .inl (cI, 40, .inl ((upd kt41_2 x35_2.toInt.toNat p0)))), (qm2, .inl (cI, 40, .inl ((upd ks41_2 x35_2.toInt.toNat p1)))), (qm3, .inl (cI, 40, .inl ((upd kf41_2 x35_2.toInt.toNat p2)))), (qm4, .inl (cI, 40, .inl ((upd kl41_2 x35_2.toInt.toNat p3)))), (qm5, .inl (cL, 40, .inr (.inl ku80_3)))] H := hP.sub [0, 1, 2, 3, 4, 5] rfl
        have hD : va_D A [(qm, .inr (1, [.ref qm1, .ref qm2, .ref qm3, .ref qm4, .ref qm5, .int zm41_2])), (qm1, .inl (cI, 40, .inl ((upd kt41_2 x35_2.toInt.toNat p0)))), (qm2, .inl (cI, 40, .inl ((upd ks41_2 x35_2.toInt.toNat p1)))), (qm3, .inl (cI, 40, .inl ((upd kf41_2 x35_2.toInt.toNat p2)))), (qm4, .inl (cI, 40, .inl ((upd kl41_2 x35_2.toInt.toNat p3)))), (qm5, .inl (cL, 40, .inr (.inl ku80_3)))] := hD.sub [0, 1, 2, 3, 4, 5] (by decide) rfl
        try dsimp only at hw80_3
        refine lv_aload_n hx hb dX1_put_83 rfl (lv_at hl 1 rfl) ?_
        refine va_get (D := G) (ci := 1) (v := .int zm41_2) (C := RX1) (T := TX1) (N := 6) hx hb hts hiX1 hown hK hP 0 rfl rfl 5 (by decide) hf28 (fun _ h9 => h9) rfl dX1_put_84 ?_
        exact W.iret (v := zm41_2) hx hb hr (fun t ht hW => ⟨⟨zm41_2, (zm41_2, (upd kt41_2 x35_2.toInt.toNat p0), (upd ks41_2 x35_2.toInt.toNat p1), (upd kf41_2 x35_2.toInt.toNat p2), (upd kl41_2 x35_2.toInt.toNat p3), ku80_3), rfl, (by (try dsimp only); exact (by have h8 := hw80_3; rw [a1, a2, a3, a4] at h8 ⊢; exact ⟨nm + 1, by omega, Or.inr (Or.inr ⟨(r2.toInt + 1).toNat, by omega, bne, by omega, by omega, rfl, rfl, rfl, rfl, rfl⟩), pi.1, pi.2.1, h8⟩)), by rw [ht]; exact hP, hD⟩, hS.F ht⟩) hS.2.2 dX1_put_87
      · have k29 : (40 : Int) ≤ zm.toInt := i_nlt rfl (show ((40 : Int32)).toInt = 40 by decide) c29
        refine lv_bipush (v := (-4)) hx hb dX1_put_32 (by decide) ?_
        exact W.iret (v := (-4)) hx hb hr (fun t ht hW => ⟨⟨(-4), (zm, kt, ks, kf, kl, ku), rfl, (by (try dsimp only); exact ⟨nm, hnm, Or.inr (Or.inl ⟨bne, by omega, by omega, rfl, rfl, rfl, rfl, rfl⟩), hOm, hSr, hU⟩), by rw [ht]; exact hP, hD⟩, hS.F ht⟩) hS.2.2 dX1_put_34
set_option maxHeartbeats 1000000 in
set_option maxRecDepth 100000 in
theorem ct_X1_putStep (l : Launch) (G : va_G) (cI cL : ClassId) (sz : Nat) (qm : Nat) (qm1 : Nat) (qm2 : Nat) (qm3 : Nat) (qm4 : Nat) (qm5 : Nat) (zm : Int32) (kt : Nat → Int32) (ks : Nat → Int32) (kf : Nat → Int32) (kl : Nat → Int32) (ku : Nat → Int64) (p0 : Int32) (p1 : Int32) (nm : Nat) (hnm : zm.toInt = nm) (hOm : okM nm kt ks kf kl) (hSr : srt nm kt) (hU : okU nm kt ks kf kl ku) (hx0 : 0 ≤ p0.toInt ∧ p0.toInt ≤ 999999) (hx3 : 1 ≤ p1.toInt ∧ p1.toInt ≤ 1000000) (hni : ¬ insS nm kt ks p0.toInt) : Met l yX1_putStep wsX1_putStep ({ frames := 5, cells := 0, slots := 0, locals := 134 }) (va_Pc [.ref qm, .int p0, .int p1] (pre0 G cI cL [(qm, .inr (1, [.ref qm1, .ref qm2, .ref qm3, .ref qm4, .ref qm5, .int zm])), (qm1, .inl (cI, 40, .inl kt)), (qm2, .inl (cI, 40, .inl ks)), (qm3, .inl (cI, 40, .inl kf)), (qm4, .inl (cI, 40, .inl kl)), (qm5, .inl (cL, 40, .inr (.inl ku)))] sz)) (va_Qi (fun (r : Int32) (u : Int32 × (Nat → Int32) × (Nat → Int32) × (Nat → Int32) × (Nat → Int32) × (Nat → Int64)) => ∃ n' : Nat, u.1.toInt = n' ∧ cPut nm kt ks kf kl p0 0 p1 p1 r.toInt n' u.2.1 u.2.2.1 u.2.2.2.1 u.2.2.2.2.1 ∧ okM n' u.2.1 u.2.2.1 u.2.2.2.1 u.2.2.2.2.1 ∧ srt n' u.2.1 ∧ okU n' u.2.1 u.2.2.1 u.2.2.2.1 u.2.2.2.2.1 u.2.2.2.2.2) (fun (u : Int32 × (Nat → Int32) × (Nat → Int32) × (Nat → Int32) × (Nat → Int32) × (Nat → Int64)) t => va_P G vwCl [(qm, .inr (1, [.ref qm1, .ref qm2, .ref qm3, .ref qm4, .ref qm5, .int u.1])), (qm1, .inl (cI, 40, .inl (u.2.1))), (qm2, .inl (cI, 40, .inl (u.2.2.1))), (qm3, .inl (cI, 40, .inl (u.2.2.2.1))), (qm4, .inl (cI, 40, .inl (u.2.2.2.2.1))), (qm5, .inl (cL, 40, .inr (.inl (u.2.2.2.2.2))))] t.heap ∧ va_D (va_A [(qm, .inr (1, [.ref qm1, .ref qm2, .ref qm3, .ref qm4, .ref qm5, .int zm])), (qm1, .inl (cI, 40, .inl kt)), (qm2, .inl (cI, 40, .inl ks)), (qm3, .inl (cI, 40, .inl kf)), (qm4, .inl (cI, 40, .inl kl)), (qm5, .inl (cL, 40, .inr (.inl ku)))] sz) [(qm, .inr (1, [.ref qm1, .ref qm2, .ref qm3, .ref qm4, .ref qm5, .int u.1])), (qm1, .inl (cI, 40, .inl (u.2.1))), (qm2, .inl (cI, 40, .inl (u.2.2.1))), (qm3, .inl (cI, 40, .inl (u.2.2.2.1))), (qm4, .inl (cI, 40, .inl (u.2.2.2.2.1))), (qm5, .inl (cL, 40, .inr (.inl (u.2.2.2.2.2))))]) (va_A [(qm, .inr (1, [.ref qm1, .ref qm2, .ref qm3, .ref qm4, .ref qm5, .int zm])), (qm1, .inl (cI, 40, .inl kt)), (qm2, .inl (cI, 40, .inl ks)), (qm3, .inl (cI, 40, .inl kf)), (qm4, .inl (cI, 40, .inl kl)), (qm5, .inl (cL, 40, .inr (.inl ku)))] sz)) 0 0 (va_A [(qm, .inr (1, [.ref qm1, .ref qm2, .ref qm3, .ref qm4, .ref qm5, .int zm])), (qm1, .inl (cI, 40, .inl kt)), (qm2, .inl (cI, 40, .inl ks)), (qm3, .inl (cI, 40, .inl kf)), (qm4, .inl (cI, 40, .inl kl)), (qm5, .inl (cL, 40, .inr (.inl ku)))] sz) := by
  refine Met.ofW (cc := cX1_putStep) (maxL := 3) (ret := (some .int)) (by decide) rfl ?_
  intro p e s m args below meth c s₁ B hml hv
  obtain ⟨rfl, hsz, hP, hK, hD0, hN⟩ := hv
  have hx := B.exec
  have hb := B.bytes
  have hr := B.returns
  have hts := atoms_spec (ws := wsX1_putStep) B.pre
  have hown : s.vm.findClass RX1 = some m.cls := findClass_of_methodNamed B.named
  have hlocks := B.notSynchronized
  subst hsz
  have hD := hD0.self (sz := s.heap.size)
  generalize hAe : va_A [(qm, .inr (1, [.ref qm1, .ref qm2, .ref qm3, .ref qm4, .ref qm5, .int zm])), (qm1, .inl (cI, 40, .inl kt)), (qm2, .inl (cI, 40, .inl ks)), (qm3, .inl (cI, 40, .inl kf)), (qm4, .inl (cI, 40, .inl kl)), (qm5, .inl (cL, 40, .inr (.inl ku)))] s.heap.size = A at hD ⊢
  have hA : ∀ q : Nat, s.heap.size ≤ q → A q := fun q h => by rw [← hAe]; exact Or.inr h
  have hP : va_P G vwCl [(qm, .inr (1, [.ref qm1, .ref qm2, .ref qm3, .ref qm4, .ref qm5, .int zm])), (qm1, .inl (cI, 40, .inl kt)), (qm2, .inl (cI, 40, .inl ks)), (qm3, .inl (cI, 40, .inl kf)), (qm4, .inl (cI, 40, .inl kl)), (qm5, .inl (cL, 40, .inr (.inl ku)))] s.heap := hP
  have hl := lv_entry ([.ref qm, .int p0, .int p1]) (n := 3) (Nat.le_of_ble_eq_true rfl)
  rw [lg_entry_eq]
  generalize (lg_sl ([.ref qm, .int p0, .int p1]) ++ List.replicate (3 - (lg_sl ([.ref qm, .int p0, .int p1])).length) Slot.unset).toArray = ls at hl ⊢
  have hl : lv_has ls 3 [(0, .ref qm), (1, .int p0), (2, .int p1)] := hl
  have zi0 : ((0 : Int32)).toInt = 0 := by decide
  refine w_h (A := A) hP (fun H locs hP hS => ?_)
  have hn40 := hOm.1
  have hrg := hOm.2.1
  refine lv_aload_n hx hb dX1_putStep_0 rfl (lv_at hl 0 rfl) ?_
  refine lv_iload_n hx hb dX1_putStep_1 rfl (lv_at hl 1 rfl) ?_
  refine lv_iconst (v := 0) hx hb dX1_putStep_2 (by decide) ?_
  refine lv_iload_n hx hb dX1_putStep_3 rfl (lv_at hl 2 rfl) ?_
  refine lv_iload_n hx hb dX1_putStep_4 rfl (lv_at hl 2 rfl) ?_
  have hPc := hP.sub (ws' := [(qm, .inr (1, [.ref qm1, .ref qm2, .ref qm3, .ref qm4, .ref qm5, .int zm])), (qm1, .inl (cI, 40, .inl kt)), (qm2, .inl (cI, 40, .inl ks)), (qm3, .inl (cI, 40, .inl kf)), (qm4, .inl (cI, 40, .inl kl)), (qm5, .inl (cL, 40, .inr (.inl ku)))]) [0, 1, 2, 3, 4, 5] rfl
  have hDc := hD.sub (ws' := [(qm, .inr (1, [.ref qm1, .ref qm2, .ref qm3, .ref qm4, .ref qm5, .int zm])), (qm1, .inl (cI, 40, .inl kt)), (qm2, .inl (cI, 40, .inl ks)), (qm3, .inl (cI, 40, .inl kf)), (qm4, .inl (cI, 40, .inl kl)), (qm5, .inl (cL, 40, .inr (.inl ku)))]) [0, 1, 2, 3, 4, 5] (by decide) rfl
  have hcc := (ct_X1_put l G cI cL H.size qm qm1 qm2 qm3 qm4 qm5 zm kt ks kf kl ku p0 0 p1 p1 nm hnm hOm hSr hU (by omega) (by omega) (by omega) (by omega) (by omega) hni (fun ⟨k, h1, h2, h3⟩ => by omega))
  refine rw_calli (wr := ([] : va_W)) (va_runV (As := [.int p0, .int 0, .int p1, .int p1]) (rest := []) ⟨hx, hb, hml, hown, hts⟩ hcc (cwV 4 hts gX1_putStep_X1_put rfl rfl rfl (by decide +kernel) ⟨Nat.le_of_ble_eq_true rfl, Nat.le_of_ble_eq_true rfl⟩) ⟨pre_blind, va_recv hK hPc (ci := 1) (q0 := 0) rfl rfl, pre_pass hK hN hPc hDc⟩ rfl rfl hl.1 rfl (lv_room (Nat.le_of_ble_eq_true rfl)) dX1_putStep_5 ⟨Nat.le_of_ble_eq_true rfl, Nat.le_of_ble_eq_true rfl⟩) hP hD hS hA [0, 1, 2, 3, 4, 5] [] rfl rfl (by decide) (by decide) (fun r5 u5 H locs hw5 hP hD hS => ?_)
  obtain ⟨zm5, kt5, ks5, kf5, kl5, ku5⟩ := u5
  have hP : va_P G vwCl [(qm, .inr (1, [.ref qm1, .ref qm2, .ref qm3, .ref qm4, .ref qm5, .int zm5])), (qm1, .inl (cI, 40, .inl kt5)), (qm2, .inl (cI, 40, .inl ks5)), (qm3, .inl (cI, 40, .inl kf5)), (qm4, .inl (cI, 40, .inl kl5)), (qm5, .inl (cL, 40, .inr (.inl ku5)))] H := hP.sub [0, 1, 2, 3, 4, 5] rfl
  have hD : va_D A [(qm, .inr (1, [.ref qm1, .ref qm2, .ref qm3, .ref qm4, .ref qm5, .int zm5])), (qm1, .inl (cI, 40, .inl kt5)), (qm2, .inl (cI, 40, .inl ks5)), (qm3, .inl (cI, 40, .inl kf5)), (qm4, .inl (cI, 40, .inl kl5)), (qm5, .inl (cL, 40, .inr (.inl ku5)))] := hD.sub [0, 1, 2, 3, 4, 5] (by decide) rfl
  try dsimp only at hw5
  exact W.iret (v := r5) hx hb hr (fun t ht hW => ⟨⟨r5, (zm5, kt5, ks5, kf5, kl5, ku5), rfl, (by (try dsimp only); exact hw5), by rw [ht]; exact hP, hD⟩, hS.F ht⟩) hS.2.2 dX1_putStep_8
set_option maxHeartbeats 1000000 in
set_option maxRecDepth 100000 in
theorem ct_X1_remove (l : Launch) (G : va_G) (cI cL : ClassId) (sz : Nat) (qm : Nat) (qm1 : Nat) (qm2 : Nat) (qm3 : Nat) (qm4 : Nat) (qm5 : Nat) (zm : Int32) (kt : Nat → Int32) (ks : Nat → Int32) (kf : Nat → Int32) (kl : Nat → Int32) (ku : Nat → Int64) (p0 : Int32) (nm : Nat) (hnm : zm.toInt = nm) (hOm : okM nm kt ks kf kl) (hSr : srt nm kt) (hU : okU nm kt ks kf kl ku) : Met l yX1_remove wsX1_remove ({ frames := 4, cells := 0, slots := 0, locals := 109 }) (va_Pc [.ref qm, .int p0] (pre0 G cI cL [(qm, .inr (1, [.ref qm1, .ref qm2, .ref qm3, .ref qm4, .ref qm5, .int zm])), (qm1, .inl (cI, 40, .inl kt)), (qm2, .inl (cI, 40, .inl ks)), (qm3, .inl (cI, 40, .inl kf)), (qm4, .inl (cI, 40, .inl kl)), (qm5, .inl (cL, 40, .inr (.inl ku)))] sz)) (va_Qi (fun (r : Int32) (u : Int32 × (Nat → Int32) × (Nat → Int32) × (Nat → Int32) × (Nat → Int32) × (Nat → Int64)) => ∃ n' : Nat, u.1.toInt = n' ∧ cDel nm kt ks kf kl p0 r.toInt n' u.2.1 u.2.2.1 u.2.2.2.1 u.2.2.2.2.1 ∧ okM n' u.2.1 u.2.2.1 u.2.2.2.1 u.2.2.2.2.1 ∧ srt n' u.2.1 ∧ okU n' u.2.1 u.2.2.1 u.2.2.2.1 u.2.2.2.2.1 u.2.2.2.2.2) (fun (u : Int32 × (Nat → Int32) × (Nat → Int32) × (Nat → Int32) × (Nat → Int32) × (Nat → Int64)) t => va_P G vwCl [(qm, .inr (1, [.ref qm1, .ref qm2, .ref qm3, .ref qm4, .ref qm5, .int u.1])), (qm1, .inl (cI, 40, .inl (u.2.1))), (qm2, .inl (cI, 40, .inl (u.2.2.1))), (qm3, .inl (cI, 40, .inl (u.2.2.2.1))), (qm4, .inl (cI, 40, .inl (u.2.2.2.2.1))), (qm5, .inl (cL, 40, .inr (.inl (u.2.2.2.2.2))))] t.heap ∧ va_D (va_A [(qm, .inr (1, [.ref qm1, .ref qm2, .ref qm3, .ref qm4, .ref qm5, .int zm])), (qm1, .inl (cI, 40, .inl kt)), (qm2, .inl (cI, 40, .inl ks)), (qm3, .inl (cI, 40, .inl kf)), (qm4, .inl (cI, 40, .inl kl)), (qm5, .inl (cL, 40, .inr (.inl ku)))] sz) [(qm, .inr (1, [.ref qm1, .ref qm2, .ref qm3, .ref qm4, .ref qm5, .int u.1])), (qm1, .inl (cI, 40, .inl (u.2.1))), (qm2, .inl (cI, 40, .inl (u.2.2.1))), (qm3, .inl (cI, 40, .inl (u.2.2.2.1))), (qm4, .inl (cI, 40, .inl (u.2.2.2.2.1))), (qm5, .inl (cL, 40, .inr (.inl (u.2.2.2.2.2))))]) (va_A [(qm, .inr (1, [.ref qm1, .ref qm2, .ref qm3, .ref qm4, .ref qm5, .int zm])), (qm1, .inl (cI, 40, .inl kt)), (qm2, .inl (cI, 40, .inl ks)), (qm3, .inl (cI, 40, .inl kf)), (qm4, .inl (cI, 40, .inl kl)), (qm5, .inl (cL, 40, .inr (.inl ku)))] sz)) 0 0 (va_A [(qm, .inr (1, [.ref qm1, .ref qm2, .ref qm3, .ref qm4, .ref qm5, .int zm])), (qm1, .inl (cI, 40, .inl kt)), (qm2, .inl (cI, 40, .inl ks)), (qm3, .inl (cI, 40, .inl kf)), (qm4, .inl (cI, 40, .inl kl)), (qm5, .inl (cL, 40, .inr (.inl ku)))] sz) := by
  refine Met.ofW (cc := cX1_remove) (maxL := 4) (ret := (some .int)) (by decide) rfl ?_
  intro p e s m args below meth c s₁ B hml hv
  obtain ⟨rfl, hsz, hP, hK, hD0, hN⟩ := hv
  have hx := B.exec
  have hb := B.bytes
  have hr := B.returns
  have hts := atoms_spec (ws := wsX1_remove) B.pre
  have hown : s.vm.findClass RX1 = some m.cls := findClass_of_methodNamed B.named
  have hlocks := B.notSynchronized
  subst hsz
  have hD := hD0.self (sz := s.heap.size)
  generalize hAe : va_A [(qm, .inr (1, [.ref qm1, .ref qm2, .ref qm3, .ref qm4, .ref qm5, .int zm])), (qm1, .inl (cI, 40, .inl kt)), (qm2, .inl (cI, 40, .inl ks)), (qm3, .inl (cI, 40, .inl kf)), (qm4, .inl (cI, 40, .inl kl)), (qm5, .inl (cL, 40, .inr (.inl ku)))] s.heap.size = A at hD ⊢
  have hA : ∀ q : Nat, s.heap.size ≤ q → A q := fun q h => by rw [← hAe]; exact Or.inr h
  have hP : va_P G vwCl [(qm, .inr (1, [.ref qm1, .ref qm2, .ref qm3, .ref qm4, .ref qm5, .int zm])), (qm1, .inl (cI, 40, .inl kt)), (qm2, .inl (cI, 40, .inl ks)), (qm3, .inl (cI, 40, .inl kf)), (qm4, .inl (cI, 40, .inl kl)), (qm5, .inl (cL, 40, .inr (.inl ku)))] s.heap := hP
  have hl := lv_entry ([.ref qm, .int p0]) (n := 4) (Nat.le_of_ble_eq_true rfl)
  rw [lg_entry_eq]
  generalize (lg_sl ([.ref qm, .int p0]) ++ List.replicate (4 - (lg_sl ([.ref qm, .int p0])).length) Slot.unset).toArray = ls at hl ⊢
  have hl : lv_has ls 4 [(0, .ref qm), (1, .int p0)] := hl
  have hf9 := hts (.fieldLink RX1 9 "TempoMaps$Marks" "ticks" "[I") (by decide +kernel)
  have hf28 := hts (.fieldLink RX1 28 "TempoMaps$Marks" "size" "I") (by decide +kernel)
  have hiX1 : ∀ w ∈ wsX10, w ∈ wsX1_remove := by decide +kernel
  have zim3 : ((-3 : Int32)).toInt = -3 := by decide
  have zi1 : ((1 : Int32)).toInt = 1 := by decide
  refine w_h (A := A) hP (fun H locs hP hS => ?_)
  have hn40 := hOm.1
  have hrg := hOm.2.1
  refine lv_aload_n hx hb dX1_remove_0 rfl (lv_at hl 0 rfl) ?_
  refine lv_iload_n hx hb dX1_remove_1 rfl (lv_at hl 1 rfl) ?_
  have hPc := hP.sub (ws' := [(qm, .inr (1, [.ref qm1, .ref qm2, .ref qm3, .ref qm4, .ref qm5, .int zm])), (qm1, .inl (cI, 40, .inl kt)), (qm2, .inl (cI, 40, .inl ks)), (qm3, .inl (cI, 40, .inl kf)), (qm4, .inl (cI, 40, .inl kl)), (qm5, .inl (cL, 40, .inr (.inl ku)))]) [0, 1, 2, 3, 4, 5] rfl
  have hDc := hD.sub (ws' := [(qm, .inr (1, [.ref qm1, .ref qm2, .ref qm3, .ref qm4, .ref qm5, .int zm])), (qm1, .inl (cI, 40, .inl kt)), (qm2, .inl (cI, 40, .inl ks)), (qm3, .inl (cI, 40, .inl kf)), (qm4, .inl (cI, 40, .inl kl)), (qm5, .inl (cL, 40, .inr (.inl ku)))]) [0, 1, 2, 3, 4, 5] (by decide) rfl
  have hcc := (ct_X1_placeOf l G cI cL H.size qm qm1 qm2 qm3 qm4 qm5 zm kt ks kf kl ku p0 nm hnm hOm hSr)
  refine ro_calli (va_runV (As := [.int p0]) (rest := []) ⟨hx, hb, hml, hown, hts⟩ hcc (cwV 1 hts gX1_remove_X1_placeOf rfl rfl rfl (by decide +kernel) ⟨Nat.le_of_ble_eq_true rfl, Nat.le_of_ble_eq_true rfl⟩) ⟨pre_blind, va_recv hK hPc (ci := 1) (q0 := 0) rfl rfl, pre_pass hK hN hPc hDc⟩ rfl rfl hl.1 rfl (lv_room (Nat.le_of_ble_eq_true rfl)) dX1_remove_2 ⟨Nat.le_of_ble_eq_true rfl, Nat.le_of_ble_eq_true rfl⟩) hP hD hS hA [0, 1, 2, 3, 4, 5] rfl (fun r2 H locs hw2 hP hS => ?_)
  try dsimp only at hw2
  refine lv_istore_n (lv' := [(2, .int r2), (0, .ref qm), (1, .int p0)]) hx hb dX1_remove_5 rfl hl (by decide) rfl (fun ls hl => ?_)
  refine lv_iload_n hx hb dX1_remove_6 rfl (lv_at hl 0 rfl) ?_
  refine lv_if_lt (tgt := 20) hx hb dX1_remove_7 (by decide) (fun c7 => ?_) (fun c7 => ?_)
  · have k7 : (r2.toInt : Int) < 0 := i_lt rfl (show ((0 : Int32)).toInt = 0 by decide) c7
    have bn := bi_neg hw2 k7
    have bne : ∀ k : Nat, k < nm → (kt k).toInt ≠ p0.toInt := fun k hk e => by have := bn.2 k hk; omega
    refine lv_bipush (v := (-3)) hx hb dX1_remove_20 (by decide) ?_
    exact W.iret (v := (-3)) hx hb hr (fun t ht hW => ⟨⟨(-3), (zm, kt, ks, kf, kl, ku), rfl, (by (try dsimp only); exact ⟨nm, hnm, Or.inr ⟨bne, by omega, rfl, rfl, rfl, rfl, rfl⟩, hOm, hSr, hU⟩), by rw [ht]; exact hP, hD⟩, hS.F ht⟩) hS.2.2 dX1_remove_22
  · have k7 : (0 : Int) ≤ r2.toInt := i_nlt rfl (show ((0 : Int32)).toInt = 0 by decide) c7
    have bg := bi_get hw2 k7
    refine lv_aload_n hx hb dX1_remove_10 rfl (lv_at hl 1 rfl) ?_
    refine va_get (D := G) (ci := 1) (v := .ref qm1) (C := RX1) (T := TX1) (N := 6) hx hb hts hiX1 hown hK hP 0 rfl rfl 0 (by decide) hf9 (fun _ h9 => h9) rfl dX1_remove_11 ?_
    refine lv_iload_n hx hb dX1_remove_14 rfl (lv_at hl 0 rfl) ?_
    refine va_iald hx hb hK hP 1 0 rfl rfl (vi_in rfl (by omega) (by omega)) dX1_remove_15 ?_
    refine lv_topi (fun x15 ex15 => ?_)
    have ex15 : x15 = kt r2.toInt.toNat := by rw [ex15]; exact congrArg _ (cl_nat rfl (by omega))
    have tx15 : x15.toInt = (kt r2.toInt.toNat).toInt := by rw [ex15]
    have hrg_x15 := hrg r2.toInt.toNat (by omega)
    refine lv_iload_n hx hb dX1_remove_16 rfl (lv_at hl 2 rfl) ?_
    refine lv_icmp_eq (tgt := 23) hx hb dX1_remove_17 (by decide) (fun c17 => ?_) (fun c17 => ?_)
    · have k17 : (x15.toInt : Int) = p0.toInt := i_eq rfl rfl c17
      refine lv_iload_n hx hb dX1_remove_23 rfl (lv_at hl 0 rfl) ?_
      refine lv_istore_n (lv' := [(3, .int r2), (2, .int r2), (0, .ref qm), (1, .int p0)]) hx hb dX1_remove_24 rfl hl (by decide) rfl (fun ls hl => ?_)
      refine W_loop5 (fun (x3 : Int32) (yt : Nat → Int32) (ys : Nat → Int32) (yf : Nat → Int32) (yl : Nat → Int32) ls H locs => va_P G vwCl [(qm, .inr (1, [.ref qm1, .ref qm2, .ref qm3, .ref qm4, .ref qm5, .int zm])), (qm1, .inl (cI, 40, .inl yt)), (qm2, .inl (cI, 40, .inl ys)), (qm3, .inl (cI, 40, .inl yf)), (qm4, .inl (cI, 40, .inl yl)), (qm5, .inl (cL, 40, .inr (.inl ku)))] H ∧ va_D A [(qm, .inr (1, [.ref qm1, .ref qm2, .ref qm3, .ref qm4, .ref qm5, .int zm])), (qm1, .inl (cI, 40, .inl yt)), (qm2, .inl (cI, 40, .inl ys)), (qm3, .inl (cI, 40, .inl yf)), (qm4, .inl (cI, 40, .inl yl)), (qm5, .inl (cL, 40, .inr (.inl ku)))] ∧ va_S A s.heap H locs ∧ lv_has ls 4 [(0, .ref qm), (1, .int p0), (2, .int r2), (3, .int x3)] ∧ (r2.toInt ≤ x3.toInt ∧ x3.toInt < nm) ∧ (yt = shP kt r2.toInt.toNat x3.toInt.toNat) ∧ (ys = shP ks r2.toInt.toNat x3.toInt.toNat) ∧ (yf = shP kf r2.toInt.toNat x3.toInt.toNat) ∧ (yl = shP kl r2.toInt.toNat x3.toInt.toNat)) (fun (x3 : Int32) (yt : Nat → Int32) (ys : Nat → Int32) (yf : Nat → Int32) (yl : Nat → Int32) => (nm - x3.toInt).toNat) (fun x3 yt ys yf yl ls H locs hI ih25 => ?_) r2 kt ks kf kl ls _ _ ⟨hP, hD, hS, lv_sub hl [2, 3, 1, 0] rfl, (show r2.toInt ≤ r2.toInt ∧ r2.toInt < nm from by omega), (show kt = shP kt r2.toInt.toNat r2.toInt.toNat from by rw [shP_0]), (show ks = shP ks r2.toInt.toNat r2.toInt.toNat from by rw [shP_0]), (show kf = shP kf r2.toInt.toNat r2.toInt.toNat from by rw [shP_0]), (show kl = shP kl r2.toInt.toNat r2.toInt.toNat from by rw [shP_0])⟩
      obtain ⟨hP, hD, hS, hl, i1, jt, js, jf, jl⟩ := hI
      refine lv_iload_n hx hb dX1_remove_25 rfl (lv_at hl 3 rfl) ?_
      refine lv_aload_n hx hb dX1_remove_26 rfl (lv_at hl 0 rfl) ?_
      refine va_get (D := G) (ci := 1) (v := .int zm) (C := RX1) (T := TX1) (N := 6) hx hb hts hiX1 hown hK hP 0 rfl rfl 5 (by decide) hf28 (fun _ h9 => h9) rfl dX1_remove_27 ?_
      refine lv_iconst (v := 1) hx hb dX1_remove_30 (by decide) ?_
      refine lv_isub hx hb dX1_remove_31 ?_
      refine lv_topi (fun x31 ex31 => ?_)
      have tx31 : x31.toInt = zm.toInt - 1 := by rw [ex31]; exact ti_sub rfl (show ((1 : Int32)).toInt = 1 by decide) (by omega) (by omega)
      refine lv_icmp_ge (tgt := 49) hx hb dX1_remove_32 (by decide) (fun c32 => ?_) (fun c32 => ?_)
      · have k32 : (x31.toInt : Int) ≤ x3.toInt := i_le rfl rfl c32
        have ei : x3.toInt.toNat + 1 = nm := by omega
        rw [shP_n _ ei] at jt js jf jl
        have dl := del_ok (m := nm - 1) hOm hSr bg.1 (by omega)
        refine lv_aload_n hx hb dX1_remove_49 rfl (lv_at hl 0 rfl) ?_
        refine lv_dup hx hb dX1_remove_50 rfl ?_
        refine va_get (D := G) (ci := 1) (v := .int zm) (C := RX1) (T := TX1) (N := 6) hx hb hts hiX1 hown hK hP 0 rfl rfl 5 (by decide) hf28 (fun _ h9 => h9) rfl dX1_remove_51 ?_
        refine lv_iconst (v := 1) hx hb dX1_remove_54 (by decide) ?_
        refine lv_isub hx hb dX1_remove_55 ?_
        refine lv_topi (fun x55 ex55 => ?_)
        have tx55 : x55.toInt = zm.toInt - 1 := by rw [ex55]; exact ti_sub rfl (show ((1 : Int32)).toInt = 1 by decide) (by omega) (by omega)
        refine va_put (D := G) (ci := 1) (v := .int x55) (ty := .int) (C := RX1) (T := TX1) (N := 6) hx hb hts hiX1 tyX1 tyX1_ok nmX1 hown hK hP hD hS 0 rfl rfl 5 (by decide) hf28 (fun _ h9 => h9) rfl (by decide +kernel) rfl rfl (Nat.le_of_ble_eq_true rfl) dX1_remove_56 (fun H locs hP hD hS => ?_)
        have hP : va_P G vwCl [(qm, .inr (1, [.ref qm1, .ref qm2, .ref qm3, .ref qm4, .ref qm5, .int x55])), (qm1, .inl (cI, 40, .inl yt)), (qm2, .inl (cI, 40, .inl ys)), (qm3, .inl (cI, 40, .inl yf)), (qm4, .inl (cI, 40, .inl yl)), (qm5, .inl (cL, 40, .inr (.inl ku)))] H := hP
        have hD : va_D A [(qm, .inr (1, [.ref qm1, .ref qm2, .ref qm3, .ref qm4, .ref qm5, .int x55])), (qm1, .inl (cI, 40, .inl yt)), (qm2, .inl (cI, 40, .inl ys)), (qm3, .inl (cI, 40, .inl yf)), (qm4, .inl (cI, 40, .inl yl)), (qm5, .inl (cL, 40, .inr (.inl ku)))] := hD
        refine lv_aload_n hx hb dX1_remove_59 rfl (lv_at hl 0 rfl) ?_
        refine lv_iload_n hx hb dX1_remove_60 rfl (lv_at hl 2 rfl) ?_
        have hPc := hP.sub (ws' := [(qm, .inr (1, [.ref qm1, .ref qm2, .ref qm3, .ref qm4, .ref qm5, .int x55])), (qm1, .inl (cI, 40, .inl yt)), (qm2, .inl (cI, 40, .inl ys)), (qm3, .inl (cI, 40, .inl yf)), (qm4, .inl (cI, 40, .inl yl)), (qm5, .inl (cL, 40, .inr (.inl ku)))]) [0, 1, 2, 3, 4, 5] rfl
        have hDc := hD.sub (ws' := [(qm, .inr (1, [.ref qm1, .ref qm2, .ref qm3, .ref qm4, .ref qm5, .int x55])), (qm1, .inl (cI, 40, .inl yt)), (qm2, .inl (cI, 40, .inl ys)), (qm3, .inl (cI, 40, .inl yf)), (qm4, .inl (cI, 40, .inl yl)), (qm5, .inl (cL, 40, .inr (.inl ku)))]) [0, 1, 2, 3, 4, 5] (by decide) rfl
        have hcc := (ct_X1_renewUnitsBefore l G cI cL H.size qm qm1 qm2 qm3 qm4 qm5 x55 yt ys yf yl ku r2 (nm - 1) (by omega) (by rw [jt, js, jf, jl]; exact dl.1) (by rw [jt]; exact dl.2.1) (by omega) ((by rw [jt, js, jf, jl]; exact fun k hk h => okU_keep hU (by omega) dl.2.2 (by rw [shL_lt (by omega)]) (by have := srt_le hSr (show k ≤ r2.toInt.toNat by omega) bg.1; omega) (by have := hrg k (by omega); omega))))
        refine rw_callv (wr := ([] : va_W)) (va_runV (As := [.int r2]) (rest := []) ⟨hx, hb, hml, hown, hts⟩ hcc (cwV 1 hts gX1_remove_X1_renewUnitsBefore rfl rfl rfl (by decide +kernel) ⟨Nat.le_of_ble_eq_true rfl, Nat.le_of_ble_eq_true rfl⟩) ⟨pre_blind, va_recv hK hPc (ci := 1) (q0 := 0) rfl rfl, pre_pass hK hN hPc hDc⟩ rfl rfl hl.1 rfl (lv_room (Nat.le_of_ble_eq_true rfl)) dX1_remove_61 ⟨Nat.le_of_ble_eq_true rfl, Nat.le_of_ble_eq_true rfl⟩) hP hD hS hA [0, 1, 2, 3, 4, 5] [] rfl rfl (by decide) (by decide) (fun u61 H locs hw61 hP hD hS => ?_)
        obtain ⟨ku61, rfl⟩ : ∃ z, z = u61 := ⟨_, rfl⟩
        have hP : va_P G vwCl [(qm, .inr (1, [.ref qm1, .ref qm2, .ref qm3, .ref qm4, .ref qm5, .int x55])), (qm1, .inl (cI, 40, .inl yt)), (qm2, .inl (cI, 40, .inl ys)), (qm3, .inl (cI, 40, .inl yf)), (qm4, .inl (cI, 40, .inl yl)), (qm5, .inl (cL, 40, .inr (.inl ku61)))] H := hP.sub [0, 1, 2, 3, 4, 5] rfl
        have hD : va_D A [(qm, .inr (1, [.ref qm1, .ref qm2, .ref qm3, .ref qm4, .ref qm5, .int x55])), (qm1, .inl (cI, 40, .inl yt)), (qm2, .inl (cI, 40, .inl ys)), (qm3, .inl (cI, 40, .inl yf)), (qm4, .inl (cI, 40, .inl yl)), (qm5, .inl (cL, 40, .inr (.inl ku61)))] := hD.sub [0, 1, 2, 3, 4, 5] (by decide) rfl
        try dsimp only at hw61
        refine lv_aload_n hx hb dX1_remove_64 rfl (lv_at hl 0 rfl) ?_
        refine va_get (D := G) (ci := 1) (v := .int x55) (C := RX1) (T := TX1) (N := 6) hx hb hts hiX1 hown hK hP 0 rfl rfl 5 (by decide) hf28 (fun _ h9 => h9) rfl dX1_remove_65 ?_
        exact W.iret (v := x55) hx hb hr (fun t ht hW => ⟨⟨x55, (x55, yt, ys, yf, yl, ku61), rfl, (by (try dsimp only); exact (by have h8 := hw61; rw [jt, js, jf, jl] at h8 ⊢; exact ⟨nm - 1, by omega, Or.inl ⟨r2.toInt.toNat, bg.1, by omega, by omega, by omega, rfl, rfl, rfl, rfl⟩, dl.1, dl.2.1, h8⟩)), by rw [ht]; exact hP, hD⟩, hS.F ht⟩) hS.2.2 dX1_remove_68
      · have k32 : (x3.toInt : Int) < x31.toInt := i_nle rfl rfl c32
        refine lv_aload_n hx hb dX1_remove_35 rfl (lv_at hl 0 rfl) ?_
        refine lv_iload_n hx hb dX1_remove_36 rfl (lv_at hl 3 rfl) ?_
        refine lv_iconst (v := 1) hx hb dX1_remove_37 (by decide) ?_
        refine lv_iadd hx hb dX1_remove_38 ?_
        refine lv_topi (fun x38 ex38 => ?_)
        have tx38 : x38.toInt = x3.toInt + 1 := by rw [ex38]; exact ti_add rfl (show ((1 : Int32)).toInt = 1 by decide) (by omega) (by omega)
        refine lv_iload_n hx hb dX1_remove_39 rfl (lv_at hl 3 rfl) ?_
        have hPc := hP.sub (ws' := [(qm, .inr (1, [.ref qm1, .ref qm2, .ref qm3, .ref qm4, .ref qm5, .int zm])), (qm1, .inl (cI, 40, .inl yt)), (qm2, .inl (cI, 40, .inl ys)), (qm3, .inl (cI, 40, .inl yf)), (qm4, .inl (cI, 40, .inl yl)), (qm5, .inl (cL, 40, .inr (.inl ku)))]) [0, 1, 2, 3, 4, 5] rfl
        have hDc := hD.sub (ws' := [(qm, .inr (1, [.ref qm1, .ref qm2, .ref qm3, .ref qm4, .ref qm5, .int zm])), (qm1, .inl (cI, 40, .inl yt)), (qm2, .inl (cI, 40, .inl ys)), (qm3, .inl (cI, 40, .inl yf)), (qm4, .inl (cI, 40, .inl yl)), (qm5, .inl (cL, 40, .inr (.inl ku)))]) [0, 1, 2, 3, 4, 5] (by decide) rfl
        have hcc := (ct_X1_copyRow l G cI cL H.size qm qm1 qm2 qm3 qm4 qm5 zm yt ys yf yl ku x38 x3 (by omega) (by omega))
        refine rw_callv (wr := ([] : va_W)) (va_runV (As := [.int x38, .int x3]) (rest := []) ⟨hx, hb, hml, hown, hts⟩ hcc (cwV 2 hts gX1_remove_X1_copyRow rfl rfl rfl (by decide +kernel) ⟨Nat.le_of_ble_eq_true rfl, Nat.le_of_ble_eq_true rfl⟩) ⟨pre_blind, va_recv hK hPc (ci := 1) (q0 := 0) rfl rfl, pre_pass hK hN hPc hDc⟩ rfl rfl hl.1 rfl (lv_room (Nat.le_of_ble_eq_true rfl)) dX1_remove_40 ⟨Nat.le_of_ble_eq_true rfl, Nat.le_of_ble_eq_true rfl⟩) hP hD hS hA [0, 1, 2, 3, 4, 5] [] rfl rfl (by decide) (by decide) (fun u40 H locs hw40 hP hD hS => ?_)
        obtain ⟨kt40, ks40, kf40, kl40⟩ := u40
        have hP : va_P G vwCl [(qm, .inr (1, [.ref qm1, .ref qm2, .ref qm3, .ref qm4, .ref qm5, .int zm])), (qm1, .inl (cI, 40, .inl kt40)), (qm2, .inl (cI, 40, .inl ks40)), (qm3, .inl (cI, 40, .inl kf40)), (qm4, .inl (cI, 40, .inl kl40)), (qm5, .inl (cL, 40, .inr (.inl ku)))] H := hP.sub [0, 1, 2, 3, 4, 5] rfl
        have hD : va_D A [(qm, .inr (1, [.ref qm1, .ref qm2, .ref qm3, .ref qm4, .ref qm5, .int zm])), (qm1, .inl (cI, 40, .inl kt40)), (qm2, .inl (cI, 40, .inl ks40)), (qm3, .inl (cI, 40, .inl kf40)), (qm4, .inl (cI, 40, .inl kl40)), (qm5, .inl (cL, 40, .inr (.inl ku)))] := hD.sub [0, 1, 2, 3, 4, 5] (by decide) rfl
        try dsimp only at hw40
        obtain ⟨x43, ex43⟩ : ∃ y : Int32, y = x3 + 1 := ⟨_, rfl⟩
        have tx43 : x43.toInt = x3.toInt + 1 := by rw [ex43]; exact ti_add rfl (by decide) (by omega) (by omega)
        refine lv_iinc (v := x43) (lv' := [(3, .int x43), (0, .ref qm), (1, .int p0), (2, .int r2)]) hx hb dX1_remove_43 hl (k := 3) rfl (by rw [ex43]; rfl) (by decide) rfl (fun ls hl => ?_)
        refine lv_goto (tgt := 25) hx hb dX1_remove_46 (by decide) ?_
        exact ih25 x43 kt40 ks40 kf40 kl40 ls _ _ ⟨hP, hD, hS, lv_sub hl [1, 2, 3, 0] rfl, (show r2.toInt ≤ x43.toInt ∧ x43.toInt < nm from by omega), (show kt40 = shP kt r2.toInt.toNat x43.toInt.toNat from by rw [hw40.1, jt, show x38.toInt.toNat = x3.toInt.toNat + 1 by omega, shP_st _ (by omega), show x43.toInt.toNat = x3.toInt.toNat + 1 by omega]), (show ks40 = shP ks r2.toInt.toNat x43.toInt.toNat from by rw [hw40.2.1, js, show x38.toInt.toNat = x3.toInt.toNat + 1 by omega, shP_st _ (by omega), show x43.toInt.toNat = x3.toInt.toNat + 1 by omega]), (show kf40 = shP kf r2.toInt.toNat x43.toInt.toNat from by rw [hw40.2.2.1, jf, show x38.toInt.toNat = x3.toInt.toNat + 1 by omega, shP_st _ (by omega), show x43.toInt.toNat = x3.toInt.toNat + 1 by omega]), (show kl40 = shP kl r2.toInt.toNat x43.toInt.toNat from by rw [hw40.2.2.2, jl, show x38.toInt.toNat = x3.toInt.toNat + 1 by omega, shP_st _ (by omega), show x43.toInt.toNat = x3.toInt.toNat + 1 by omega])⟩ (show (nm - x43.toInt).toNat < (nm - x3.toInt).toNat from by omega)
    · have k17 : (x15.toInt : Int) ≠ p0.toInt := i_ne rfl rfl c17
      have bne : ∀ k : Nat, k < nm → (kt k).toInt ≠ p0.toInt := fun k hk e => by
        have h1 := bg.2.2.2 k hk (by omega)
        have h2 := hOm.2.2.1 k r2.toInt.toNat hk bg.1 (by omega)
        rw [h2] at e; omega
      refine lv_bipush (v := (-3)) hx hb dX1_remove_20 (by decide) ?_
      exact W.iret (v := (-3)) hx hb hr (fun t ht hW => ⟨⟨(-3), (zm, kt, ks, kf, kl, ku), rfl, (by (try dsimp only); exact ⟨nm, hnm, Or.inr ⟨bne, by omega, rfl, rfl, rfl, rfl, rfl⟩, hOm, hSr, hU⟩), by rw [ht]; exact hP, hD⟩, hS.F ht⟩) hS.2.2 dX1_remove_22

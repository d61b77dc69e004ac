set_option maxHeartbeats 1000000 in
set_option maxRecDepth 100000 in
theorem ct_X3_beginOf (l : Launch) (G : va_G) (cI cL : ClassId) (sz : Nat) (qx : Nat) (qm : Nat) (qm1 : Nat) (qm2 : Nat) (qm3 : Nat) (qm4 : Nat) (qm5 : Nat) (zm : Int32) (kt : Nat → Int32) (ks : Nat → Int32) (kf : Nat → Int32) (kl : Nat → Int32) (ku : Nat → Int64) (qh : Nat) (qh1 : Nat) (qh2 : Nat) (zh : Int32) (gt : Nat → Int32) (gu : Nat → Int32) (qt : Nat) (qt1 : Nat) (zt : Int32) (kp : Nat → Int64) (p0 : Int32) (nm : Nat) (hnm : zm.toInt = nm) (hOm : okM nm kt ks kf kl) (hSr : srt nm kt) (hU : okU nm kt ks kf kl ku) (nh : Nat) (hnh : zh.toInt = nh) (hOh : okH nh gt gu) (nt : Nat) (hnt : zt.toInt = nt) (hOt : okT nt kp) (hp0 : 0 ≤ p0.toInt ∧ p0.toInt ≤ 1000000) : Met l yX3_beginOf wsX3_beginOf ({ frames := 4, cells := 0, slots := 0, locals := 108 }) (va_Pc [.ref qx, .int p0] (pre0 G cI cL [(qx, .inr (3, [.ref qm, .ref qh, .ref qt])), (qm, .inr (1, [.ref qm1, .ref qm2, .ref qm3, .ref qm4, .ref qm5, .int zm])), (qm1, .inl (cI, 40, .inl kt)), (qm2, .inl (cI, 40, .inl ks)), (qm3, .inl (cI, 40, .inl kf)), (qm4, .inl (cI, 40, .inl kl)), (qm5, .inl (cL, 40, .inr (.inl ku))), (qh, .inr (0, [.ref qh1, .ref qh2, .int zh])), (qh1, .inl (cI, 20, .inl gt)), (qh2, .inl (cI, 20, .inl gu)), (qt, .inr (2, [.ref qt1, .int zt])), (qt1, .inl (cL, 40, .inr (.inl kp)))] sz)) (va_Ql (fun (r : Int64) (u : Unit) => r.toInt = Bg (paceF kt ks kf kl nm) gt gu nh p0.toInt.toNat) (fun (u : Unit) t => va_P G vwCl [(qx, .inr (3, [.ref qm, .ref qh, .ref qt])), (qm, .inr (1, [.ref qm1, .ref qm2, .ref qm3, .ref qm4, .ref qm5, .int zm])), (qm1, .inl (cI, 40, .inl kt)), (qm2, .inl (cI, 40, .inl ks)), (qm3, .inl (cI, 40, .inl kf)), (qm4, .inl (cI, 40, .inl kl)), (qm5, .inl (cL, 40, .inr (.inl ku))), (qh, .inr (0, [.ref qh1, .ref qh2, .int zh])), (qh1, .inl (cI, 20, .inl gt)), (qh2, .inl (cI, 20, .inl gu)), (qt, .inr (2, [.ref qt1, .int zt])), (qt1, .inl (cL, 40, .inr (.inl kp)))] t.heap ∧ va_D (va_A [(qx, .inr (3, [.ref qm, .ref qh, .ref qt])), (qm, .inr (1, [.ref qm1, .ref qm2, .ref qm3, .ref qm4, .ref qm5, .int zm])), (qm1, .inl (cI, 40, .inl kt)), (qm2, .inl (cI, 40, .inl ks)), (qm3, .inl (cI, 40, .inl kf)), (qm4, .inl (cI, 40, .inl kl)), (qm5, .inl (cL, 40, .inr (.inl ku))), (qh, .inr (0, [.ref qh1, .ref qh2, .int zh])), (qh1, .inl (cI, 20, .inl gt)), (qh2, .inl (cI, 20, .inl gu)), (qt, .inr (2, [.ref qt1, .int zt])), (qt1, .inl (cL, 40, .inr (.inl kp)))] sz) [(qx, .inr (3, [.ref qm, .ref qh, .ref qt])), (qm, .inr (1, [.ref qm1, .ref qm2, .ref qm3, .ref qm4, .ref qm5, .int zm])), (qm1, .inl (cI, 40, .inl kt)), (qm2, .inl (cI, 40, .inl ks)), (qm3, .inl (cI, 40, .inl kf)), (qm4, .inl (cI, 40, .inl kl)), (qm5, .inl (cL, 40, .inr (.inl ku))), (qh, .inr (0, [.ref qh1, .ref qh2, .int zh])), (qh1, .inl (cI, 20, .inl gt)), (qh2, .inl (cI, 20, .inl gu)), (qt, .inr (2, [.ref qt1, .int zt])), (qt1, .inl (cL, 40, .inr (.inl kp)))]) (va_A [(qx, .inr (3, [.ref qm, .ref qh, .ref qt])), (qm, .inr (1, [.ref qm1, .ref qm2, .ref qm3, .ref qm4, .ref qm5, .int zm])), (qm1, .inl (cI, 40, .inl kt)), (qm2, .inl (cI, 40, .inl ks)), (qm3, .inl (cI, 40, .inl kf)), (qm4, .inl (cI, 40, .inl kl)), (qm5, .inl (cL, 40, .inr (.inl ku))), (qh, .inr (0, [.ref qh1, .ref qh2, .int zh])), (qh1, .inl (cI, 20, .inl gt)), (qh2, .inl (cI, 20, .inl gu)), (qt, .inr (2, [.ref qt1, .int zt])), (qt1, .inl (cL, 40, .inr (.inl kp)))] sz)) 0 0 (va_A [(qx, .inr (3, [.ref qm, .ref qh, .ref qt])), (qm, .inr (1, [.ref qm1, .ref qm2, .ref qm3, .ref qm4, .ref qm5, .int zm])), (qm1, .inl (cI, 40, .inl kt)), (qm2, .inl (cI, 40, .inl ks)), (qm3, .inl (cI, 40, .inl kf)), (qm4, .inl (cI, 40, .inl kl)), (qm5, .inl (cL, 40, .inr (.inl ku))), (qh, .inr (0, [.ref qh1, .ref qh2, .int zh])), (qh1, .inl (cI, 20, .inl gt)), (qh2, .inl (cI, 20, .inl gu)), (qt, .inr (2, [.ref qt1, .int zt])), (qt1, .inl (cL, 40, .inr (.inl kp)))] sz) := by
  refine Met.ofW (cc := cX3_beginOf) (maxL := 2) (ret := (some .long)) (by decide) rfl ?_
  intro p e s m args below meth c s₁ B hml hv
  obtain ⟨rfl, hsz, hP, hK, hD0, hN⟩ := hv
  have hx := B.exec
  have hb := B.bytes
  have hr := B.returns
  have hts := atoms_spec (ws := wsX3_beginOf) B.pre
  have hown : s.vm.findClass RX3 = some m.cls := findClass_of_methodNamed B.named
  have hlocks := B.notSynchronized
  subst hsz
  have hD := hD0.self (sz := s.heap.size)
  generalize hAe : va_A [(qx, .inr (3, [.ref qm, .ref qh, .ref qt])), (qm, .inr (1, [.ref qm1, .ref qm2, .ref qm3, .ref qm4, .ref qm5, .int zm])), (qm1, .inl (cI, 40, .inl kt)), (qm2, .inl (cI, 40, .inl ks)), (qm3, .inl (cI, 40, .inl kf)), (qm4, .inl (cI, 40, .inl kl)), (qm5, .inl (cL, 40, .inr (.inl ku))), (qh, .inr (0, [.ref qh1, .ref qh2, .int zh])), (qh1, .inl (cI, 20, .inl gt)), (qh2, .inl (cI, 20, .inl gu)), (qt, .inr (2, [.ref qt1, .int zt])), (qt1, .inl (cL, 40, .inr (.inl kp)))] s.heap.size = A at hD ⊢
  have hA : ∀ q : Nat, s.heap.size ≤ q → A q := fun q h => by rw [← hAe]; exact Or.inr h
  have hP : va_P G vwCl [(qx, .inr (3, [.ref qm, .ref qh, .ref qt])), (qm, .inr (1, [.ref qm1, .ref qm2, .ref qm3, .ref qm4, .ref qm5, .int zm])), (qm1, .inl (cI, 40, .inl kt)), (qm2, .inl (cI, 40, .inl ks)), (qm3, .inl (cI, 40, .inl kf)), (qm4, .inl (cI, 40, .inl kl)), (qm5, .inl (cL, 40, .inr (.inl ku))), (qh, .inr (0, [.ref qh1, .ref qh2, .int zh])), (qh1, .inl (cI, 20, .inl gt)), (qh2, .inl (cI, 20, .inl gu)), (qt, .inr (2, [.ref qt1, .int zt])), (qt1, .inl (cL, 40, .inr (.inl kp)))] s.heap := hP
  have hl := lv_entry ([.ref qx, .int p0]) (n := 2) (Nat.le_of_ble_eq_true rfl)
  rw [lg_entry_eq]
  generalize (lg_sl ([.ref qx, .int p0]) ++ List.replicate (2 - (lg_sl ([.ref qx, .int p0])).length) Slot.unset).toArray = ls at hl ⊢
  have hl : lv_has ls 2 [(0, .ref qx), (1, .int p0)] := hl
  have hf10 := hts (.fieldLink RX3 10 "TempoMaps" "marks" "LTempoMaps$Marks;") (by decide +kernel)
  have hf19 := hts (.fieldLink RX3 19 "TempoMaps" "holds" "LTempoMaps$Holds;") (by decide +kernel)
  have hiX3 : ∀ w ∈ wsX30, w ∈ wsX3_beginOf := by decide +kernel
  refine w_h (A := A) hP (fun H locs hP hS => ?_)
  have hn40 := hOm.1
  have hrg := hOm.2.1
  have zz0 : ((0 : Int32)).toInt = 0 := by decide
  have hB := fun (x : Nat) (hx : x ≤ 1000000) => Bg_rng (P := paceF kt ks kf kl nm) (pace_rng hOm) hOh hx
  refine lv_aload_n hx hb dX3_beginOf_0 rfl (lv_at hl 0 rfl) ?_
  refine va_get (D := G) (ci := 3) (v := .ref qm) (C := RX3) (T := TX3) (N := 3) hx hb hts hiX3 hown hK hP 0 rfl rfl 0 (by decide) hf10 (fun _ h9 => h9) rfl dX3_beginOf_1 ?_
  refine lv_iload_n hx hb dX3_beginOf_4 rfl (lv_at hl 1 rfl) ?_
  have hPc := hP.sub (ws' := [(qm, .inr (1, [.ref qm1, .ref qm2, .ref qm3, .ref qm4, .ref qm5, .int zm])), (qm1, .inl (cI, 40, .inl kt)), (qm2, .inl (cI, 40, .inl ks)), (qm3, .inl (cI, 40, .inl kf)), (qm4, .inl (cI, 40, .inl kl)), (qm5, .inl (cL, 40, .inr (.inl ku)))]) [1, 2, 3, 4, 5, 6] rfl
  have hDc := hD.sub (ws' := [(qm, .inr (1, [.ref qm1, .ref qm2, .ref qm3, .ref qm4, .ref qm5, .int zm])), (qm1, .inl (cI, 40, .inl kt)), (qm2, .inl (cI, 40, .inl ks)), (qm3, .inl (cI, 40, .inl kf)), (qm4, .inl (cI, 40, .inl kl)), (qm5, .inl (cL, 40, .inr (.inl ku)))]) [1, 2, 3, 4, 5, 6] (by decide) rfl
  have hcc := (ct_X1_unitsAhead l G cI cL H.size qm qm1 qm2 qm3 qm4 qm5 zm kt ks kf kl ku p0 nm hnm hOm hSr hU (by omega))
  refine ro_calll (va_runV (As := [.int p0]) (rest := []) ⟨hx, hb, hml, hown, hts⟩ hcc (cwV 1 hts gX3_beginOf_X1_unitsAhead rfl rfl rfl (by decide +kernel) ⟨Nat.le_of_ble_eq_true rfl, Nat.le_of_ble_eq_true rfl⟩) ⟨pre_blind, va_recv hK hPc (ci := 1) (q0 := 0) rfl rfl, pre_pass hK hN hPc hDc⟩ rfl rfl hl.1 rfl (lv_room (Nat.le_of_ble_eq_true rfl)) dX3_beginOf_5 ⟨Nat.le_of_ble_eq_true rfl, Nat.le_of_ble_eq_true rfl⟩) hP hD hS hA [1, 2, 3, 4, 5, 6] rfl (fun r5 H locs hw5 hP hS => ?_)
  try dsimp only at hw5
  refine lv_aload_n hx hb dX3_beginOf_8 rfl (lv_at hl 0 rfl) ?_
  refine va_get (D := G) (ci := 3) (v := .ref qh) (C := RX3) (T := TX3) (N := 3) hx hb hts hiX3 hown hK hP 0 rfl rfl 1 (by decide) hf19 (fun _ h9 => h9) rfl dX3_beginOf_9 ?_
  refine lv_iload_n hx hb dX3_beginOf_12 rfl (lv_at hl 1 rfl) ?_
  have hPc := hP.sub (ws' := [(qh, .inr (0, [.ref qh1, .ref qh2, .int zh])), (qh1, .inl (cI, 20, .inl gt)), (qh2, .inl (cI, 20, .inl gu))]) [7, 8, 9] rfl
  have hDc := hD.sub (ws' := [(qh, .inr (0, [.ref qh1, .ref qh2, .int zh])), (qh1, .inl (cI, 20, .inl gt)), (qh2, .inl (cI, 20, .inl gu))]) [7, 8, 9] (by decide) rfl
  have hcc := (ct_X0_unitsUpTo l G cI cL H.size qh qh1 qh2 zh gt gu p0 nh hnh hOh)
  refine ro_calll (va_runV (As := [.int p0]) (rest := [.long r5]) ⟨hx, hb, hml, hown, hts⟩ hcc (cwV 1 hts gX3_beginOf_X0_unitsUpTo rfl rfl rfl (by decide +kernel) ⟨Nat.le_of_ble_eq_true rfl, Nat.le_of_ble_eq_true rfl⟩) ⟨pre_blind, va_recv hK hPc (ci := 0) (q0 := 0) rfl rfl, pre_pass hK hN hPc hDc⟩ rfl rfl hl.1 rfl (lv_room (Nat.le_of_ble_eq_true rfl)) dX3_beginOf_13 ⟨Nat.le_of_ble_eq_true rfl, Nat.le_of_ble_eq_true rfl⟩) hP hD hS hA [7, 8, 9] rfl (fun r13 H locs hw13 hP hS => ?_)
  try dsimp only at hw13
  have q1 := psum_rng (P := paceF kt ks kf kl nm) p0.toInt.toNat (fun y _ => pace_rng hOm y)
  have q2 := hsum_rng (t := gt) (u := gu) (x := p0.toInt) nh (fun k hk => by have := hOh.2.1 k hk; omega)
  have q3 := hOh.1
  refine lv_ladd hx hb dX3_beginOf_16 ?_
  refine lv_topl (fun x16 ex16 => ?_)
  have tx16 : x16.toInt = r5.toInt + r13.toInt := by rw [ex16]; exact tl_add rfl rfl (by omega) (by omega)
  exact W.lret (v := x16) hx hb hr (fun t ht hW => ⟨⟨x16, (), rfl, (by (try dsimp only); exact (by unfold Bg; rw [show ((p0.toInt.toNat : Nat) : Int) = p0.toInt by omega]; omega)), by rw [ht]; exact hP, hD⟩, hS.F ht⟩) hS.2.2 dX3_beginOf_17

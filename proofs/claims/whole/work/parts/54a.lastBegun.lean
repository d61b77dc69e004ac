set_option maxHeartbeats 1000000 in
set_option maxRecDepth 100000 in
theorem ct_X4_lastBegun (l : Launch) (G : va_G) (cI cL : ClassId) (sz : Nat) (qy : Nat) (qy1 : Nat) (qy2 : Nat) (qy3 : Nat) (qy4 : Nat) (qy5 : Nat) (qy6 : Nat) (qy7 : Nat) (zM : Int32) (zH : Int32) (zT : Int32) (bg : Int64) (Mt : Nat → Int32) (Ms : Nat → Int32) (Mf : Nat → Int32) (Ml : Nat → Int32) (Ht : Nat → Int32) (Hu : Nat → Int32) (Tp : Nat → Int64) (p0 : Int64) (nm : Nat) (hnM : zM.toInt = nm) (hOM : okM nm Mt Ms Mf Ml) (nh : Nat) (hnH : zH.toInt = nh) (hOH : okH nh Ht Hu) (nt : Nat) (hnT : zT.toInt = nt) (hOT : okT nt Tp) (hp0 : 0 ≤ p0.toInt) : Met l yX4_lastBegun wsX4_lastBegun ({ frames := 2, cells := 0, slots := 0, locals := 52 }) (va_Pc [.ref qy, .long p0] (pre0 G cI cL [(qy, .inr (4, [.ref qy1, .ref qy2, .ref qy3, .ref qy4, .int zM, .ref qy5, .ref qy6, .int zH, .ref qy7, .int zT, .long bg])), (qy1, .inl (cI, 40, .inl Mt)), (qy2, .inl (cI, 40, .inl Ms)), (qy3, .inl (cI, 40, .inl Mf)), (qy4, .inl (cI, 40, .inl Ml)), (qy5, .inl (cI, 20, .inl Ht)), (qy6, .inl (cI, 20, .inl Hu)), (qy7, .inl (cL, 40, .inr (.inl Tp)))] sz)) (va_Qi (fun (r : Int32) (u : Int64) => lastB (Bg (paceF Mt Ms Mf Ml nm) Ht Hu nh) p0.toInt r.toInt ∧ (0 ≤ r.toInt → r.toInt < 1000000 → u.toInt = Bg (paceF Mt Ms Mf Ml nm) Ht Hu nh r.toInt.toNat)) (fun (u : Int64) t => va_P G vwCl [(qy, .inr (4, [.ref qy1, .ref qy2, .ref qy3, .ref qy4, .int zM, .ref qy5, .ref qy6, .int zH, .ref qy7, .int zT, .long u])), (qy1, .inl (cI, 40, .inl Mt)), (qy2, .inl (cI, 40, .inl Ms)), (qy3, .inl (cI, 40, .inl Mf)), (qy4, .inl (cI, 40, .inl Ml)), (qy5, .inl (cI, 20, .inl Ht)), (qy6, .inl (cI, 20, .inl Hu)), (qy7, .inl (cL, 40, .inr (.inl Tp)))] t.heap ∧ va_D (va_A [(qy, .inr (4, [.ref qy1, .ref qy2, .ref qy3, .ref qy4, .int zM, .ref qy5, .ref qy6, .int zH, .ref qy7, .int zT, .long bg])), (qy1, .inl (cI, 40, .inl Mt)), (qy2, .inl (cI, 40, .inl Ms)), (qy3, .inl (cI, 40, .inl Mf)), (qy4, .inl (cI, 40, .inl Ml)), (qy5, .inl (cI, 20, .inl Ht)), (qy6, .inl (cI, 20, .inl Hu)), (qy7, .inl (cL, 40, .inr (.inl Tp)))] sz) [(qy, .inr (4, [.ref qy1, .ref qy2, .ref qy3, .ref qy4, .int zM, .ref qy5, .ref qy6, .int zH, .ref qy7, .int zT, .long u])), (qy1, .inl (cI, 40, .inl Mt)), (qy2, .inl (cI, 40, .inl Ms)), (qy3, .inl (cI, 40, .inl Mf)), (qy4, .inl (cI, 40, .inl Ml)), (qy5, .inl (cI, 20, .inl Ht)), (qy6, .inl (cI, 20, .inl Hu)), (qy7, .inl (cL, 40, .inr (.inl Tp)))]) (va_A [(qy, .inr (4, [.ref qy1, .ref qy2, .ref qy3, .ref qy4, .int zM, .ref qy5, .ref qy6, .int zH, .ref qy7, .int zT, .long bg])), (qy1, .inl (cI, 40, .inl Mt)), (qy2, .inl (cI, 40, .inl Ms)), (qy3, .inl (cI, 40, .inl Mf)), (qy4, .inl (cI, 40, .inl Ml)), (qy5, .inl (cI, 20, .inl Ht)), (qy6, .inl (cI, 20, .inl Hu)), (qy7, .inl (cL, 40, .inr (.inl Tp)))] sz)) 0 0 (va_A [(qy, .inr (4, [.ref qy1, .ref qy2, .ref qy3, .ref qy4, .int zM, .ref qy5, .ref qy6, .int zH, .ref qy7, .int zT, .long bg])), (qy1, .inl (cI, 40, .inl Mt)), (qy2, .inl (cI, 40, .inl Ms)), (qy3, .inl (cI, 40, .inl Mf)), (qy4, .inl (cI, 40, .inl Ml)), (qy5, .inl (cI, 20, .inl Ht)), (qy6, .inl (cI, 20, .inl Hu)), (qy7, .inl (cL, 40, .inr (.inl Tp)))] sz) := by
  refine Met.ofW (cc := cX4_lastBegun) (maxL := 11) (ret := (some .int)) (by decide) rfl ?_
  intro p e s m args below meth c s₁ B hml hv
  obtain ⟨rfl, hsz, hP, hK, hD0, hN⟩ := hv
  have hx := B.exec
  have hb := B.bytes
  have hr := B.returns
  have hts := atoms_spec (ws := wsX4_lastBegun) B.pre
  have hown : s.vm.findClass RX4 = some m.cls := findClass_of_methodNamed B.named
  have hlocks := B.notSynchronized
  subst hsz
  have hD := hD0.self (sz := s.heap.size)
  generalize hAe : va_A [(qy, .inr (4, [.ref qy1, .ref qy2, .ref qy3, .ref qy4, .int zM, .ref qy5, .ref qy6, .int zH, .ref qy7, .int zT, .long bg])), (qy1, .inl (cI, 40, .inl Mt)), (qy2, .inl (cI, 40, .inl Ms)), (qy3, .inl (cI, 40, .inl Mf)), (qy4, .inl (cI, 40, .inl Ml)), (qy5, .inl (cI, 20, .inl Ht)), (qy6, .inl (cI, 20, .inl Hu)), (qy7, .inl (cL, 40, .inr (.inl Tp)))] s.heap.size = A at hD ⊢
  have hA : ∀ q : Nat, s.heap.size ≤ q → A q := fun q h => by rw [← hAe]; exact Or.inr h
  have hP : va_P G vwCl [(qy, .inr (4, [.ref qy1, .ref qy2, .ref qy3, .ref qy4, .int zM, .ref qy5, .ref qy6, .int zH, .ref qy7, .int zT, .long bg])), (qy1, .inl (cI, 40, .inl Mt)), (qy2, .inl (cI, 40, .inl Ms)), (qy3, .inl (cI, 40, .inl Mf)), (qy4, .inl (cI, 40, .inl Ml)), (qy5, .inl (cI, 20, .inl Ht)), (qy6, .inl (cI, 20, .inl Hu)), (qy7, .inl (cL, 40, .inr (.inl Tp)))] s.heap := hP
  have hl := lv_entry ([.ref qy, .long p0]) (n := 11) (Nat.le_of_ble_eq_true rfl)
  rw [lg_entry_eq]
  generalize (lg_sl ([.ref qy, .long p0]) ++ List.replicate (11 - (lg_sl ([.ref qy, .long p0])).length) Slot.unset).toArray = ls at hl ⊢
  have hl : lv_has ls 11 [(0, .ref qy), (1, .long p0)] := hl
  have hf95 := hts (.fieldLink RX4 95 "TempoMapsModel" "begunAt" "J") (by decide +kernel)
  have hf67 := hts (.fieldLink RX4 67 "TempoMapsModel" "holds" "I") (by decide +kernel)
  have hf22 := hts (.fieldLink RX4 22 "TempoMapsModel" "holdTick" "[I") (by decide +kernel)
  have hiX4 : ∀ w ∈ wsX40, w ∈ wsX4_lastBegun := by decide +kernel
  have zim1 : ((-1 : Int32)).toInt = -1 := by decide
  have zi0 : ((0 : Int32)).toInt = 0 := by decide
  have zi1 : ((1 : Int32)).toInt = 1 := by decide
  have zi1000000 : ((1000000 : Int32)).toInt = 1000000 := by decide
  refine w_h (A := A) hP (fun H locs hP hS => ?_)
  have hn40 := hOM.1
  have hrg := hOM.2.1
  have hn20 := hOH.1
  have hrh := hOH.2.1
  have hn41 := hOT.1
  have hrt := hOT.2.1
  have zz0 : ((0 : Int32)).toInt = 0 := by decide
  have hB := fun (x : Nat) (hx : x ≤ 1000000) => Bg_rng (P := paceF Mt Ms Mf Ml nm) (pace_rng hOM) hOH hx
  have rgp := tl_rng p0
  refine lv_aload_n hx hb dX4_lastBegun_0 rfl (lv_at hl 0 rfl) ?_
  refine lv_aload_n hx hb dX4_lastBegun_1 rfl (lv_at hl 0 rfl) ?_
  refine lv_iconst (v := 0) hx hb dX4_lastBegun_2 (by decide) ?_
  have hPc := hP.sub (ws' := [(qy, .inr (4, [.ref qy1, .ref qy2, .ref qy3, .ref qy4, .int zM, .ref qy5, .ref qy6, .int zH, .ref qy7, .int zT, .long bg])), (qy1, .inl (cI, 40, .inl Mt)), (qy2, .inl (cI, 40, .inl Ms)), (qy3, .inl (cI, 40, .inl Mf)), (qy4, .inl (cI, 40, .inl Ml)), (qy5, .inl (cI, 20, .inl Ht)), (qy6, .inl (cI, 20, .inl Hu)), (qy7, .inl (cL, 40, .inr (.inl Tp)))]) [0, 1, 2, 3, 4, 5, 6, 7] rfl
  have hDc := hD.sub (ws' := [(qy, .inr (4, [.ref qy1, .ref qy2, .ref qy3, .ref qy4, .int zM, .ref qy5, .ref qy6, .int zH, .ref qy7, .int zT, .long bg])), (qy1, .inl (cI, 40, .inl Mt)), (qy2, .inl (cI, 40, .inl Ms)), (qy3, .inl (cI, 40, .inl Mf)), (qy4, .inl (cI, 40, .inl Ml)), (qy5, .inl (cI, 20, .inl Ht)), (qy6, .inl (cI, 20, .inl Hu)), (qy7, .inl (cL, 40, .inr (.inl Tp)))]) [0, 1, 2, 3, 4, 5, 6, 7] (by decide) rfl
  have hcc := (ct_X4_heldAt l G cI cL H.size qy qy1 qy2 qy3 qy4 qy5 qy6 qy7 zM zH zT bg Mt Ms Mf Ml Ht Hu Tp 0 nm hnM hOM nh hnH hOH nt hnT hOT)
  refine ro_calli (va_runV (As := [.int 0]) (rest := [.ref qy]) ⟨hx, hb, hml, hown, hts⟩ hcc (cwV 1 hts gX4_lastBegun_X4_heldAt rfl rfl rfl (by decide +kernel) ⟨Nat.le_of_ble_eq_true rfl, Nat.le_of_ble_eq_true rfl⟩) ⟨pre_blind, va_recv hK hPc (ci := 4) (q0 := 0) rfl rfl, pre_pass hK hN hPc hDc⟩ rfl rfl hl.1 rfl (lv_room (Nat.le_of_ble_eq_true rfl)) dX4_lastBegun_3 ⟨Nat.le_of_ble_eq_true rfl, Nat.le_of_ble_eq_true rfl⟩) hP hD hS hA [0, 1, 2, 3, 4, 5, 6, 7] rfl (fun r3 H locs hw3 hP hS => ?_)
  try dsimp only at hw3
  have hz : r3.toInt = Bg (paceF Mt Ms Mf Ml nm) Ht Hu nh 0 := by rw [hw3, zi0]; exact (Bg_0 hOH).symm
  have hz0 := hB 0 (by omega)
  refine lv_i2l hx hb dX4_lastBegun_6 rfl ?_
  refine lv_topl (fun x6 ex6 => ?_)
  have tx6 : x6.toInt = r3.toInt := by rw [ex6]; exact tc_i2l rfl
  refine va_put (D := G) (ci := 4) (v := .long x6) (ty := .long) (C := RX4) (T := TX4) (N := 11) hx hb hts hiX4 tyX4 tyX4_ok nmX4 hown hK hP hD hS 0 rfl rfl 10 (by decide) hf95 (fun _ h9 => h9) rfl (by decide +kernel) rfl rfl (Nat.le_of_ble_eq_true rfl) dX4_lastBegun_7 (fun H locs hP hD hS => ?_)
  have hP : va_P G vwCl [(qy, .inr (4, [.ref qy1, .ref qy2, .ref qy3, .ref qy4, .int zM, .ref qy5, .ref qy6, .int zH, .ref qy7, .int zT, .long x6])), (qy1, .inl (cI, 40, .inl Mt)), (qy2, .inl (cI, 40, .inl Ms)), (qy3, .inl (cI, 40, .inl Mf)), (qy4, .inl (cI, 40, .inl Ml)), (qy5, .inl (cI, 20, .inl Ht)), (qy6, .inl (cI, 20, .inl Hu)), (qy7, .inl (cL, 40, .inr (.inl Tp)))] H := hP
  have hD : va_D A [(qy, .inr (4, [.ref qy1, .ref qy2, .ref qy3, .ref qy4, .int zM, .ref qy5, .ref qy6, .int zH, .ref qy7, .int zT, .long x6])), (qy1, .inl (cI, 40, .inl Mt)), (qy2, .inl (cI, 40, .inl Ms)), (qy3, .inl (cI, 40, .inl Mf)), (qy4, .inl (cI, 40, .inl Ml)), (qy5, .inl (cI, 20, .inl Ht)), (qy6, .inl (cI, 20, .inl Hu)), (qy7, .inl (cL, 40, .inr (.inl Tp)))] := hD
  refine lv_lload_n hx hb dX4_lastBegun_10 rfl (lv_at hl 1 rfl) ?_
  refine lv_aload_n hx hb dX4_lastBegun_11 rfl (lv_at hl 0 rfl) ?_
  refine va_get (D := G) (ci := 4) (v := .long x6) (C := RX4) (T := TX4) (N := 11) hx hb hts hiX4 hown hK hP 0 rfl rfl 10 (by decide) hf95 (fun _ h9 => h9) rfl dX4_lastBegun_12 ?_
  refine W.lcmp hx hb dX4_lastBegun_15 ?_
  refine lv_if_ge (tgt := 21) hx hb dX4_lastBegun_16 (by decide) (fun c16 => ?_) (fun c16 => ?_)
  · have k16 : (r3.toInt : Int) ≤ p0.toInt := l_le tx6 rfl ((lg_cmp_ge _ _).mp c16)
    refine lv_iconst (v := 0) hx hb dX4_lastBegun_21 (by decide) ?_
    refine lv_istore_n (lv' := [(3, .int 0), (0, .ref qy), (1, .long p0)]) hx hb dX4_lastBegun_22 rfl hl (by decide) rfl (fun ls hl => ?_)
    refine W_loop2 (fun (v3 : Int32) (yb : Int64) ls H locs => va_P G vwCl [(qy, .inr (4, [.ref qy1, .ref qy2, .ref qy3, .ref qy4, .int zM, .ref qy5, .ref qy6, .int zH, .ref qy7, .int zT, .long yb])), (qy1, .inl (cI, 40, .inl Mt)), (qy2, .inl (cI, 40, .inl Ms)), (qy3, .inl (cI, 40, .inl Mf)), (qy4, .inl (cI, 40, .inl Ml)), (qy5, .inl (cI, 20, .inl Ht)), (qy6, .inl (cI, 20, .inl Hu)), (qy7, .inl (cL, 40, .inr (.inl Tp)))] H ∧ va_D A [(qy, .inr (4, [.ref qy1, .ref qy2, .ref qy3, .ref qy4, .int zM, .ref qy5, .ref qy6, .int zH, .ref qy7, .int zT, .long yb])), (qy1, .inl (cI, 40, .inl Mt)), (qy2, .inl (cI, 40, .inl Ms)), (qy3, .inl (cI, 40, .inl Mf)), (qy4, .inl (cI, 40, .inl Ml)), (qy5, .inl (cI, 20, .inl Ht)), (qy6, .inl (cI, 20, .inl Hu)), (qy7, .inl (cL, 40, .inr (.inl Tp)))] ∧ va_S A s.heap H locs ∧ lv_has ls 11 [(0, .ref qy), (1, .long p0), (3, .int v3)] ∧ (0 ≤ v3.toInt ∧ v3.toInt ≤ 1000000) ∧ (yb.toInt = Bg (paceF Mt Ms Mf Ml nm) Ht Hu nh v3.toInt.toNat) ∧ (yb.toInt ≤ p0.toInt)) (fun (v3 : Int32) (yb : Int64) => (1000000 - v3.toInt).toNat) (fun v3 yb ls H locs hI ih23 => ?_) (0 : Int32) x6 ls _ _ ⟨hP, hD, hS, lv_sub hl [1, 2, 0] rfl, (show 0 ≤ (0 : Int32).toInt ∧ (0 : Int32).toInt ≤ 1000000 from by omega), (show x6.toInt = Bg (paceF Mt Ms Mf Ml nm) Ht Hu nh (0 : Int32).toInt.toNat from by rw [tx6, hz, zi0]; rfl), (show x6.toInt ≤ p0.toInt from by omega)⟩
    obtain ⟨hP, hD, hS, hl, j1, j3, j4⟩ := hI
    refine lv_iload_n hx hb dX4_lastBegun_23 rfl (lv_at hl 2 rfl) ?_
    refine lv_ldc (v := 1000000) hx hb hown (hts (.constant RX4 61 1000000) (by decide +kernel)) dX4_lastBegun_24 ?_
    refine lv_icmp_ge (tgt := 218) hx hb dX4_lastBegun_26 (by decide) (fun c26 => ?_) (fun c26 => ?_)
    · have k26 : (1000000 : Int) ≤ v3.toInt := i_le (show ((1000000 : Int32)).toInt = 1000000 by decide) rfl c26
      refine lv_ldc (v := 1000000) hx hb hown (hts (.constant RX4 61 1000000) (by decide +kernel)) dX4_lastBegun_218 ?_
      exact W.iret (v := 1000000) hx hb hr (fun t ht hW => ⟨⟨1000000, yb, rfl, (by (try dsimp only); exact ⟨Or.inr (Or.inr ⟨by omega, by rw [show v3.toInt.toNat = 1000000 by omega] at j3; omega⟩), fun _ h => by omega⟩), by rw [ht]; exact hP, hD⟩, hS.F ht⟩) hS.2.2 dX4_lastBegun_220
    · have k26 : (v3.toInt : Int) < 1000000 := i_nle (show ((1000000 : Int32)).toInt = 1000000 by decide) rfl c26
      refine lv_aload_n hx hb dX4_lastBegun_29 rfl (lv_at hl 0 rfl) ?_
      refine lv_iload_n hx hb dX4_lastBegun_30 rfl (lv_at hl 2 rfl) ?_
      refine lv_ldc (v := 1000000) hx hb hown (hts (.constant RX4 61 1000000) (by decide +kernel)) dX4_lastBegun_31 ?_
      have hPc := hP.sub (ws' := [(qy, .inr (4, [.ref qy1, .ref qy2, .ref qy3, .ref qy4, .int zM, .ref qy5, .ref qy6, .int zH, .ref qy7, .int zT, .long yb])), (qy1, .inl (cI, 40, .inl Mt)), (qy2, .inl (cI, 40, .inl Ms)), (qy3, .inl (cI, 40, .inl Mf)), (qy4, .inl (cI, 40, .inl Ml)), (qy5, .inl (cI, 20, .inl Ht)), (qy6, .inl (cI, 20, .inl Hu)), (qy7, .inl (cL, 40, .inr (.inl Tp)))]) [0, 1, 2, 3, 4, 5, 6, 7] rfl
      have hDc := hD.sub (ws' := [(qy, .inr (4, [.ref qy1, .ref qy2, .ref qy3, .ref qy4, .int zM, .ref qy5, .ref qy6, .int zH, .ref qy7, .int zT, .long yb])), (qy1, .inl (cI, 40, .inl Mt)), (qy2, .inl (cI, 40, .inl Ms)), (qy3, .inl (cI, 40, .inl Mf)), (qy4, .inl (cI, 40, .inl Ml)), (qy5, .inl (cI, 20, .inl Ht)), (qy6, .inl (cI, 20, .inl Hu)), (qy7, .inl (cL, 40, .inr (.inl Tp)))]) [0, 1, 2, 3, 4, 5, 6, 7] (by decide) rfl
      have hcc := (ct_X4_alikeTo l G cI cL H.size qy qy1 qy2 qy3 qy4 qy5 qy6 qy7 zM zH zT yb Mt Ms Mf Ml Ht Hu Tp v3 1000000 nm hnM hOM nh hnH hOH nt hnT hOT (by omega))
      refine ro_calli (va_runV (As := [.int v3, .int 1000000]) (rest := []) ⟨hx, hb, hml, hown, hts⟩ hcc (cwV 2 hts gX4_lastBegun_X4_alikeTo rfl rfl rfl (by decide +kernel) ⟨Nat.le_of_ble_eq_true rfl, Nat.le_of_ble_eq_true rfl⟩) ⟨pre_blind, va_recv hK hPc (ci := 4) (q0 := 0) rfl rfl, pre_pass hK hN hPc hDc⟩ rfl rfl hl.1 rfl (lv_room (Nat.le_of_ble_eq_true rfl)) dX4_lastBegun_33 ⟨Nat.le_of_ble_eq_true rfl, Nat.le_of_ble_eq_true rfl⟩) hP hD hS hA [0, 1, 2, 3, 4, 5, 6, 7] rfl (fun r33 H locs hw33 hP hS => ?_)
      try dsimp only at hw33
      refine lv_istore (lv' := [(4, .int r33), (0, .ref qy), (1, .long p0), (3, .int v3)]) hx hb dX4_lastBegun_36  hl (by decide) rfl (fun ls hl => ?_)
      refine lv_iconst (v := 0) hx hb dX4_lastBegun_38 (by decide) ?_
      refine lv_istore (lv' := [(5, .int 0), (4, .int r33), (0, .ref qy), (1, .long p0), (3, .int v3)]) hx hb dX4_lastBegun_39  hl (by decide) rfl (fun ls hl => ?_)
      refine W_loop2 (fun (v4 : Int32) (v5 : Int32) ls H locs => va_P G vwCl [(qy, .inr (4, [.ref qy1, .ref qy2, .ref qy3, .ref qy4, .int zM, .ref qy5, .ref qy6, .int zH, .ref qy7, .int zT, .long yb])), (qy1, .inl (cI, 40, .inl Mt)), (qy2, .inl (cI, 40, .inl Ms)), (qy3, .inl (cI, 40, .inl Mf)), (qy4, .inl (cI, 40, .inl Ml)), (qy5, .inl (cI, 20, .inl Ht)), (qy6, .inl (cI, 20, .inl Hu)), (qy7, .inl (cL, 40, .inr (.inl Tp)))] H ∧ va_D A [(qy, .inr (4, [.ref qy1, .ref qy2, .ref qy3, .ref qy4, .int zM, .ref qy5, .ref qy6, .int zH, .ref qy7, .int zT, .long yb])), (qy1, .inl (cI, 40, .inl Mt)), (qy2, .inl (cI, 40, .inl Ms)), (qy3, .inl (cI, 40, .inl Mf)), (qy4, .inl (cI, 40, .inl Ml)), (qy5, .inl (cI, 20, .inl Ht)), (qy6, .inl (cI, 20, .inl Hu)), (qy7, .inl (cL, 40, .inr (.inl Tp)))] ∧ va_S A s.heap H locs ∧ lv_has ls 11 [(0, .ref qy), (1, .long p0), (3, .int v3), (4, .int v4), (5, .int v5)] ∧ (0 ≤ v5.toInt ∧ v5.toInt ≤ nh) ∧ (v3.toInt < v4.toInt ∧ v4.toInt ≤ r33.toInt) ∧ (∀ k : Nat, k < nh → (k : Int) < v5.toInt → v3.toInt < (Ht k).toInt → v4.toInt ≤ (Ht k).toInt)) (fun (v4 : Int32) (v5 : Int32) => (nh - v5.toInt).toNat) (fun v4 v5 ls H locs hI ih41 => ?_) r33 (0 : Int32) ls _ _ ⟨hP, hD, hS, lv_sub hl [2, 3, 4, 1, 0] rfl, (show 0 ≤ (0 : Int32).toInt ∧ (0 : Int32).toInt ≤ nh from by omega), (show v3.toInt < r33.toInt ∧ r33.toInt ≤ r33.toInt from ⟨hw33.1, Int.le_refl _⟩), (show ∀ k : Nat, k < nh → (k : Int) < (0 : Int32).toInt → v3.toInt < (Ht k).toInt → r33.toInt ≤ (Ht k).toInt from fun k hk h _ => by omega)⟩
      obtain ⟨hP, hD, hS, hl, i1, i3, i4⟩ := hI
      refine lv_iload hx hb dX4_lastBegun_41 (lv_at hl 4 rfl) ?_
      refine lv_aload_n hx hb dX4_lastBegun_43 rfl (lv_at hl 0 rfl) ?_
      refine va_get (D := G) (ci := 4) (v := .int zH) (C := RX4) (T := TX4) (N := 11) hx hb hts hiX4 hown hK hP 0 rfl rfl 7 (by decide) hf67 (fun _ h9 => h9) rfl dX4_lastBegun_44 ?_
      refine lv_icmp_ge (tgt := 93) hx hb dX4_lastBegun_47 (by decide) (fun c47 => ?_) (fun c47 => ?_)
      · have k47 : (zH.toInt : Int) ≤ v5.toInt := i_le rfl rfl c47
        refine lv_aload_n hx hb dX4_lastBegun_93 rfl (lv_at hl 0 rfl) ?_
        refine lv_iload_n hx hb dX4_lastBegun_94 rfl (lv_at hl 2 rfl) ?_
        have hPc := hP.sub (ws' := [(qy, .inr (4, [.ref qy1, .ref qy2, .ref qy3, .ref qy4, .int zM, .ref qy5, .ref qy6, .int zH, .ref qy7, .int zT, .long yb])), (qy1, .inl (cI, 40, .inl Mt)), (qy2, .inl (cI, 40, .inl Ms)), (qy3, .inl (cI, 40, .inl Mf)), (qy4, .inl (cI, 40, .inl Ml)), (qy5, .inl (cI, 20, .inl Ht)), (qy6, .inl (cI, 20, .inl Hu)), (qy7, .inl (cL, 40, .inr (.inl Tp)))]) [0, 1, 2, 3, 4, 5, 6, 7] rfl
        have hDc := hD.sub (ws' := [(qy, .inr (4, [.ref qy1, .ref qy2, .ref qy3, .ref qy4, .int zM, .ref qy5, .ref qy6, .int zH, .ref qy7, .int zT, .long yb])), (qy1, .inl (cI, 40, .inl Mt)), (qy2, .inl (cI, 40, .inl Ms)), (qy3, .inl (cI, 40, .inl Mf)), (qy4, .inl (cI, 40, .inl Ml)), (qy5, .inl (cI, 20, .inl Ht)), (qy6, .inl (cI, 20, .inl Hu)), (qy7, .inl (cL, 40, .inr (.inl Tp)))]) [0, 1, 2, 3, 4, 5, 6, 7] (by decide) rfl
        have hcc := (ct_X4_paceAt l G cI cL H.size qy qy1 qy2 qy3 qy4 qy5 qy6 qy7 zM zH zT yb Mt Ms Mf Ml Ht Hu Tp v3 nm hnM hOM nh hnH hOH nt hnT hOT (by omega))
        refine ro_calli (va_runV (As := [.int v3]) (rest := []) ⟨hx, hb, hml, hown, hts⟩ hcc (cwV 1 hts gX4_lastBegun_X4_paceAt rfl rfl rfl (by decide +kernel) ⟨Nat.le_of_ble_eq_true rfl, Nat.le_of_ble_eq_true rfl⟩) ⟨pre_blind, va_recv hK hPc (ci := 4) (q0 := 0) rfl rfl, pre_pass hK hN hPc hDc⟩ rfl rfl hl.1 rfl (lv_room (Nat.le_of_ble_eq_true rfl)) dX4_lastBegun_95 ⟨Nat.le_of_ble_eq_true rfl, Nat.le_of_ble_eq_true rfl⟩) hP hD hS hA [0, 1, 2, 3, 4, 5, 6, 7] rfl (fun r95 H locs hw95 hP hS => ?_)
        try dsimp only at hw95
        refine lv_i2l hx hb dX4_lastBegun_98 rfl ?_
        refine lv_topl (fun x98 ex98 => ?_)
        have tx98 : x98.toInt = r95.toInt := by rw [ex98]; exact tc_i2l rfl
        refine lv_lstore (lv' := [(5, .long x98), (0, .ref qy), (1, .long p0), (3, .int v3), (4, .int v4)]) hx hb dX4_lastBegun_99  hl (by decide) rfl (fun ls hl => ?_)
        have hfl := hw33.2.2
        have sB := seg_B (P := paceF Mt Ms Mf Ml nm) (t := Ht) (u := Hu) (h := nh) (a := v3.toInt.toNat) (b := v4.toInt.toNat) (c := r95.toInt) hOH (by omega) (fun y h1 h2 => by rw [hw95]; exact hfl y (by omega) (by omega)) (fun k hk h => by have := i4 k hk (by omega) (by omega); omega)
        rw [show ((v3.toInt.toNat : Nat) : Int) = v3.toInt by omega, show ((v4.toInt.toNat : Nat) : Int) = v4.toInt by omega, ← j3] at sB
        have hv := heldV_rng (x := v4.toInt) hOH
        have pr := pace_rng hOM v3.toInt
        rw [← hw95] at pr
        have hb3 := hB v3.toInt.toNat (by omega)
        have hb4 := hB v4.toInt.toNat (by omega)
        refine lv_iload hx hb dX4_lastBegun_101 (lv_at hl 4 rfl) ?_
        refine lv_iload_n hx hb dX4_lastBegun_103 rfl (lv_at hl 3 rfl) ?_
        refine lv_isub hx hb dX4_lastBegun_104 ?_
        refine lv_topi (fun x104 ex104 => ?_)
        have tx104 : x104.toInt = v4.toInt - v3.toInt := by rw [ex104]; exact ti_sub rfl rfl (by omega) (by omega)
        refine lv_i2l hx hb dX4_lastBegun_105 rfl ?_
        refine lv_topl (fun x105 ex105 => ?_)
        have tx105 : x105.toInt = x104.toInt := by rw [ex105]; exact tc_i2l rfl
        refine lv_lload hx hb dX4_lastBegun_106 (lv_at hl 0 rfl) ?_
        have b108 := mul_bnd (show 0 ≤ x104.toInt ∧ x104.toInt ≤ 1000000 by omega) (show 0 ≤ r95.toInt ∧ r95.toInt ≤ 1000000 by omega)
        refine lv_lmul hx hb dX4_lastBegun_108 ?_
        refine lv_topl (fun x108 ex108 => ?_)
        have tx108 : x108.toInt = x104.toInt * r95.toInt := by rw [ex108]; exact tl_mul tx105 tx98 (by omega) (by omega)
        refine lv_lstore (lv' := [(7, .long x108), (5, .long x98), (0, .ref qy), (1, .long p0), (3, .int v3), (4, .int v4)]) hx hb dX4_lastBegun_109  hl (by decide) rfl (fun ls hl => ?_)
        have e108 : x108.toInt = r95.toInt * (v4.toInt - v3.toInt) := by rw [tx108, tx104, Int.mul_comm]
        rw [← e108] at sB
        refine lv_lload_n hx hb dX4_lastBegun_111 rfl (lv_at hl 3 rfl) ?_
        refine lv_aload_n hx hb dX4_lastBegun_112 rfl (lv_at hl 2 rfl) ?_
        refine va_get (D := G) (ci := 4) (v := .long yb) (C := RX4) (T := TX4) (N := 11) hx hb hts hiX4 hown hK hP 0 rfl rfl 10 (by decide) hf95 (fun _ h9 => h9) rfl dX4_lastBegun_113 ?_
        refine lv_lsub hx hb dX4_lastBegun_116 ?_
        refine lv_topl (fun x116 ex116 => ?_)
        have tx116 : x116.toInt = p0.toInt - yb.toInt := by rw [ex116]; exact tl_sub rfl rfl (by omega) (by omega)
        refine lv_lload hx hb dX4_lastBegun_117 (lv_at hl 0 rfl) ?_
        refine W.lcmp hx hb dX4_lastBegun_119 ?_
        refine lv_if_ge (tgt := 154) hx hb dX4_lastBegun_120 (by decide) (fun c120 => ?_) (fun c120 => ?_)
        · have k120 : (x108.toInt : Int) ≤ x116.toInt := l_le rfl rfl ((lg_cmp_ge _ _).mp c120)
          refine lv_lload_n hx hb dX4_lastBegun_154 rfl (lv_at hl 3 rfl) ?_
          refine lv_aload_n hx hb dX4_lastBegun_155 rfl (lv_at hl 2 rfl) ?_
          refine va_get (D := G) (ci := 4) (v := .long yb) (C := RX4) (T := TX4) (N := 11) hx hb hts hiX4 hown hK hP 0 rfl rfl 10 (by decide) hf95 (fun _ h9 => h9) rfl dX4_lastBegun_156 ?_
          refine lv_lsub hx hb dX4_lastBegun_159 ?_
          refine lv_topl (fun x159 ex159 => ?_)
          have tx159 : x159.toInt = p0.toInt - yb.toInt := by rw [ex159]; exact tl_sub rfl rfl (by omega) (by omega)
          refine lv_lload hx hb dX4_lastBegun_160 (lv_at hl 0 rfl) ?_
          refine lv_aload_n hx hb dX4_lastBegun_162 rfl (lv_at hl 2 rfl) ?_
          refine lv_iload hx hb dX4_lastBegun_163 (lv_at hl 5 rfl) ?_
          have hPc := hP.sub (ws' := [(qy, .inr (4, [.ref qy1, .ref qy2, .ref qy3, .ref qy4, .int zM, .ref qy5, .ref qy6, .int zH, .ref qy7, .int zT, .long yb])), (qy1, .inl (cI, 40, .inl Mt)), (qy2, .inl (cI, 40, .inl Ms)), (qy3, .inl (cI, 40, .inl Mf)), (qy4, .inl (cI, 40, .inl Ml)), (qy5, .inl (cI, 20, .inl Ht)), (qy6, .inl (cI, 20, .inl Hu)), (qy7, .inl (cL, 40, .inr (.inl Tp)))]) [0, 1, 2, 3, 4, 5, 6, 7] rfl
          have hDc := hD.sub (ws' := [(qy, .inr (4, [.ref qy1, .ref qy2, .ref qy3, .ref qy4, .int zM, .ref qy5, .ref qy6, .int zH, .ref qy7, .int zT, .long yb])), (qy1, .inl (cI, 40, .inl Mt)), (qy2, .inl (cI, 40, .inl Ms)), (qy3, .inl (cI, 40, .inl Mf)), (qy4, .inl (cI, 40, .inl Ml)), (qy5, .inl (cI, 20, .inl Ht)), (qy6, .inl (cI, 20, .inl Hu)), (qy7, .inl (cL, 40, .inr (.inl Tp)))]) [0, 1, 2, 3, 4, 5, 6, 7] (by decide) rfl
          have hcc := (ct_X4_heldAt l G cI cL H.size qy qy1 qy2 qy3 qy4 qy5 qy6 qy7 zM zH zT yb Mt Ms Mf Ml Ht Hu Tp v4 nm hnM hOM nh hnH hOH nt hnT hOT)
          refine ro_calli (va_runV (As := [.int v4]) (rest := [.long x108, .long x159]) ⟨hx, hb, hml, hown, hts⟩ hcc (cwV 1 hts gX4_lastBegun_X4_heldAt rfl rfl rfl (by decide +kernel) ⟨Nat.le_of_ble_eq_true rfl, Nat.le_of_ble_eq_true rfl⟩) ⟨pre_blind, va_recv hK hPc (ci := 4) (q0 := 0) rfl rfl, pre_pass hK hN hPc hDc⟩ rfl rfl hl.1 rfl (lv_room (Nat.le_of_ble_eq_true rfl)) dX4_lastBegun_165 ⟨Nat.le_of_ble_eq_true rfl, Nat.le_of_ble_eq_true rfl⟩) hP hD hS hA [0, 1, 2, 3, 4, 5, 6, 7] rfl (fun r165 H locs hw165 hP hS => ?_)
          try dsimp only at hw165
          refine lv_i2l hx hb dX4_lastBegun_168 rfl ?_
          refine lv_topl (fun x168 ex168 => ?_)
          have tx168 : x168.toInt = r165.toInt := by rw [ex168]; exact tc_i2l rfl
          refine lv_ladd hx hb dX4_lastBegun_169 ?_
          refine lv_topl (fun x169 ex169 => ?_)
          have tx169 : x169.toInt = x108.toInt + r165.toInt := by rw [ex169]; exact tl_add rfl tx168 (by omega) (by omega)
          refine W.lcmp hx hb dX4_lastBegun_170 ?_
          refine lv_if_ge (tgt := 193) hx hb dX4_lastBegun_171 (by decide) (fun c171 => ?_) (fun c171 => ?_)
          · have k171 : (x169.toInt : Int) ≤ x159.toInt := l_le rfl rfl ((lg_cmp_ge _ _).mp c171)
            refine lv_aload_n hx hb dX4_lastBegun_193 rfl (lv_at hl 2 rfl) ?_
            refine lv_dup hx hb dX4_lastBegun_194 rfl ?_
            refine va_get (D := G) (ci := 4) (v := .long yb) (C := RX4) (T := TX4) (N := 11) hx hb hts hiX4 hown hK hP 0 rfl rfl 10 (by decide) hf95 (fun _ h9 => h9) rfl dX4_lastBegun_195 ?_
            refine lv_lload hx hb dX4_lastBegun_198 (lv_at hl 0 rfl) ?_
            refine lv_aload_n hx hb dX4_lastBegun_200 rfl (lv_at hl 2 rfl) ?_
            refine lv_iload hx hb dX4_lastBegun_201 (lv_at hl 5 rfl) ?_
            have hPc := hP.sub (ws' := [(qy, .inr (4, [.ref qy1, .ref qy2, .ref qy3, .ref qy4, .int zM, .ref qy5, .ref qy6, .int zH, .ref qy7, .int zT, .long yb])), (qy1, .inl (cI, 40, .inl Mt)), (qy2, .inl (cI, 40, .inl Ms)), (qy3, .inl (cI, 40, .inl Mf)), (qy4, .inl (cI, 40, .inl Ml)), (qy5, .inl (cI, 20, .inl Ht)), (qy6, .inl (cI, 20, .inl Hu)), (qy7, .inl (cL, 40, .inr (.inl Tp)))]) [0, 1, 2, 3, 4, 5, 6, 7] rfl
            have hDc := hD.sub (ws' := [(qy, .inr (4, [.ref qy1, .ref qy2, .ref qy3, .ref qy4, .int zM, .ref qy5, .ref qy6, .int zH, .ref qy7, .int zT, .long yb])), (qy1, .inl (cI, 40, .inl Mt)), (qy2, .inl (cI, 40, .inl Ms)), (qy3, .inl (cI, 40, .inl Mf)), (qy4, .inl (cI, 40, .inl Ml)), (qy5, .inl (cI, 20, .inl Ht)), (qy6, .inl (cI, 20, .inl Hu)), (qy7, .inl (cL, 40, .inr (.inl Tp)))]) [0, 1, 2, 3, 4, 5, 6, 7] (by decide) rfl
            have hcc := (ct_X4_heldAt l G cI cL H.size qy qy1 qy2 qy3 qy4 qy5 qy6 qy7 zM zH zT yb Mt Ms Mf Ml Ht Hu Tp v4 nm hnM hOM nh hnH hOH nt hnT hOT)
            refine ro_calli (va_runV (As := [.int v4]) (rest := [.long x108, .long yb, .ref qy]) ⟨hx, hb, hml, hown, hts⟩ hcc (cwV 1 hts gX4_lastBegun_X4_heldAt rfl rfl rfl (by decide +kernel) ⟨Nat.le_of_ble_eq_true rfl, Nat.le_of_ble_eq_true rfl⟩) ⟨pre_blind, va_recv hK hPc (ci := 4) (q0 := 0) rfl rfl, pre_pass hK hN hPc hDc⟩ rfl rfl hl.1 rfl (lv_room (Nat.le_of_ble_eq_true rfl)) dX4_lastBegun_203 ⟨Nat.le_of_ble_eq_true rfl, Nat.le_of_ble_eq_true rfl⟩) hP hD hS hA [0, 1, 2, 3, 4, 5, 6, 7] rfl (fun r203 H locs hw203 hP hS => ?_)
            try dsimp only at hw203
            refine lv_i2l hx hb dX4_lastBegun_206 rfl ?_
            refine lv_topl (fun x206 ex206 => ?_)
            have tx206 : x206.toInt = r203.toInt := by rw [ex206]; exact tc_i2l rfl
            refine lv_ladd hx hb dX4_lastBegun_207 ?_
            refine lv_topl (fun x207 ex207 => ?_)
            have tx207 : x207.toInt = x108.toInt + r203.toInt := by rw [ex207]; exact tl_add rfl tx206 (by omega) (by omega)
            refine lv_ladd hx hb dX4_lastBegun_208 ?_
            refine lv_topl (fun x208 ex208 => ?_)
            have tx208 : x208.toInt = yb.toInt + x207.toInt := by rw [ex208]; exact tl_add rfl rfl (by omega) (by omega)
            refine va_put (D := G) (ci := 4) (v := .long x208) (ty := .long) (C := RX4) (T := TX4) (N := 11) hx hb hts hiX4 tyX4 tyX4_ok nmX4 hown hK hP hD hS 0 rfl rfl 10 (by decide) hf95 (fun _ h9 => h9) rfl (by decide +kernel) rfl rfl (Nat.le_of_ble_eq_true rfl) dX4_lastBegun_209 (fun H locs hP hD hS => ?_)
            have hP : va_P G vwCl [(qy, .inr (4, [.ref qy1, .ref qy2, .ref qy3, .ref qy4, .int zM, .ref qy5, .ref qy6, .int zH, .ref qy7, .int zT, .long x208])), (qy1, .inl (cI, 40, .inl Mt)), (qy2, .inl (cI, 40, .inl Ms)), (qy3, .inl (cI, 40, .inl Mf)), (qy4, .inl (cI, 40, .inl Ml)), (qy5, .inl (cI, 20, .inl Ht)), (qy6, .inl (cI, 20, .inl Hu)), (qy7, .inl (cL, 40, .inr (.inl Tp)))] H := hP
            have hD : va_D A [(qy, .inr (4, [.ref qy1, .ref qy2, .ref qy3, .ref qy4, .int zM, .ref qy5, .ref qy6, .int zH, .ref qy7, .int zT, .long x208])), (qy1, .inl (cI, 40, .inl Mt)), (qy2, .inl (cI, 40, .inl Ms)), (qy3, .inl (cI, 40, .inl Mf)), (qy4, .inl (cI, 40, .inl Ml)), (qy5, .inl (cI, 20, .inl Ht)), (qy6, .inl (cI, 20, .inl Hu)), (qy7, .inl (cL, 40, .inr (.inl Tp)))] := hD
            refine lv_iload hx hb dX4_lastBegun_212 (lv_at hl 5 rfl) ?_
            refine lv_istore_n (lv' := [(3, .int v4), (7, .long x108), (5, .long x98), (0, .ref qy), (1, .long p0), (4, .int v4)]) hx hb dX4_lastBegun_214 rfl hl (by decide) rfl (fun ls hl => ?_)
            refine lv_goto (tgt := 23) hx hb dX4_lastBegun_215 (by decide) ?_
            exact ih23 v4 x208 ls _ _ ⟨hP, hD, hS, lv_sub hl [3, 4, 0] rfl, (show 0 ≤ v4.toInt ∧ v4.toInt ≤ 1000000 from by omega), (show x208.toInt = Bg (paceF Mt Ms Mf Ml nm) Ht Hu nh v4.toInt.toNat from by rw [sB.2]; omega), (show x208.toInt ≤ p0.toInt from by omega)⟩ (show (1000000 - v4.toInt).toNat < (1000000 - v3.toInt).toNat from by omega)
          · have k171 : (x159.toInt : Int) < x169.toInt := l_nle rfl rfl (fun h9 => c171 ((lg_cmp_ge _ _).mpr h9))
            refine lv_aload_n hx hb dX4_lastBegun_174 rfl (lv_at hl 2 rfl) ?_
            refine lv_dup hx hb dX4_lastBegun_175 rfl ?_
            refine va_get (D := G) (ci := 4) (v := .long yb) (C := RX4) (T := TX4) (N := 11) hx hb hts hiX4 hown hK hP 0 rfl rfl 10 (by decide) hf95 (fun _ h9 => h9) rfl dX4_lastBegun_176 ?_
            refine lv_lload hx hb dX4_lastBegun_179 (lv_at hl 0 rfl) ?_
            refine lv_lload hx hb dX4_lastBegun_181 (lv_at hl 1 rfl) ?_
            refine lv_lsub hx hb dX4_lastBegun_183 ?_
            refine lv_topl (fun x183 ex183 => ?_)
            have tx183 : x183.toInt = x108.toInt - r95.toInt := by rw [ex183]; exact tl_sub rfl tx98 (by omega) (by omega)
            refine lv_ladd hx hb dX4_lastBegun_184 ?_
            refine lv_topl (fun x184 ex184 => ?_)
            have tx184 : x184.toInt = yb.toInt + x183.toInt := by rw [ex184]; exact tl_add rfl rfl (by omega) (by omega)
            refine va_put (D := G) (ci := 4) (v := .long x184) (ty := .long) (C := RX4) (T := TX4) (N := 11) hx hb hts hiX4 tyX4 tyX4_ok nmX4 hown hK hP hD hS 0 rfl rfl 10 (by decide) hf95 (fun _ h9 => h9) rfl (by decide +kernel) rfl rfl (Nat.le_of_ble_eq_true rfl) dX4_lastBegun_185 (fun H locs hP hD hS => ?_)
            have hP : va_P G vwCl [(qy, .inr (4, [.ref qy1, .ref qy2, .ref qy3, .ref qy4, .int zM, .ref qy5, .ref qy6, .int zH, .ref qy7, .int zT, .long x184])), (qy1, .inl (cI, 40, .inl Mt)), (qy2, .inl (cI, 40, .inl Ms)), (qy3, .inl (cI, 40, .inl Mf)), (qy4, .inl (cI, 40, .inl Ml)), (qy5, .inl (cI, 20, .inl Ht)), (qy6, .inl (cI, 20, .inl Hu)), (qy7, .inl (cL, 40, .inr (.inl Tp)))] H := hP
            have hD : va_D A [(qy, .inr (4, [.ref qy1, .ref qy2, .ref qy3, .ref qy4, .int zM, .ref qy5, .ref qy6, .int zH, .ref qy7, .int zT, .long x184])), (qy1, .inl (cI, 40, .inl Mt)), (qy2, .inl (cI, 40, .inl Ms)), (qy3, .inl (cI, 40, .inl Mf)), (qy4, .inl (cI, 40, .inl Ml)), (qy5, .inl (cI, 20, .inl Ht)), (qy6, .inl (cI, 20, .inl Hu)), (qy7, .inl (cL, 40, .inr (.inl Tp)))] := hD
            refine lv_iload hx hb dX4_lastBegun_188 (lv_at hl 5 rfl) ?_
            refine lv_iconst (v := 1) hx hb dX4_lastBegun_190 (by decide) ?_
            refine lv_isub hx hb dX4_lastBegun_191 ?_
            refine lv_topi (fun x191 ex191 => ?_)
            have tx191 : x191.toInt = v4.toInt - 1 := by rw [ex191]; exact ti_sub rfl (show ((1 : Int32)).toInt = 1 by decide) (by omega) (by omega)
            have br1 := sB.1 (v4.toInt - 1).toNat (by omega) (by omega)
            rw [show (((v4.toInt - 1).toNat : Nat) : Int) - v3.toInt = (v4.toInt - v3.toInt) - 1 by omega, Int.mul_sub, Int.mul_one, ← e108] at br1
            exact W.iret (v := x191) hx hb hr (fun t ht hW => ⟨⟨x191, x184, rfl, (by (try dsimp only); exact (by rw [tx191]; exact ⟨Or.inr (Or.inl ⟨by omega, by omega, by omega, by rw [show (v4.toInt - 1).toNat + 1 = v4.toInt.toNat by omega]; omega⟩), fun _ _ => by omega⟩)), by rw [ht]; exact hP, hD⟩, hS.F ht⟩) hS.2.2 dX4_lastBegun_192
        · have k120 : (x116.toInt : Int) < x108.toInt := l_nle rfl rfl (fun h9 => c120 ((lg_cmp_ge _ _).mpr h9))
          refine lv_lload_n hx hb dX4_lastBegun_123 rfl (lv_at hl 3 rfl) ?_
          refine lv_aload_n hx hb dX4_lastBegun_124 rfl (lv_at hl 2 rfl) ?_
          refine va_get (D := G) (ci := 4) (v := .long yb) (C := RX4) (T := TX4) (N := 11) hx hb hts hiX4 hown hK hP 0 rfl rfl 10 (by decide) hf95 (fun _ h9 => h9) rfl dX4_lastBegun_125 ?_
          refine lv_lsub hx hb dX4_lastBegun_128 ?_
          refine lv_topl (fun x128 ex128 => ?_)
          have tx128 : x128.toInt = p0.toInt - yb.toInt := by rw [ex128]; exact tl_sub rfl rfl (by omega) (by omega)
          refine lv_lload hx hb dX4_lastBegun_129 (lv_at hl 1 rfl) ?_
          refine lv_ldiv hx hb dX4_lastBegun_131 (l_ne0 tx98 (by omega)) ?_
          refine lv_topl (fun x131 ex131 => ?_)
          have tx131 : x131.toInt = x128.toInt / r95.toInt := by rw [ex131]; exact tl_div rfl tx98 (by omega) (by omega)
          refine lv_lstore (lv' := [(9, .long x131), (7, .long x108), (5, .long x98), (0, .ref qy), (1, .long p0), (3, .int v3), (4, .int v4)]) hx hb dX4_lastBegun_132  hl (by decide) rfl (fun ls hl => ?_)
          have d1 := dv_bnd (a := p0.toInt - yb.toInt) (b := r95.toInt) (by omega)
          rw [← show x131.toInt = (p0.toInt - yb.toInt) / r95.toInt by rw [tx131, tx128]] at d1
          rw [Int.add_mul, Int.one_mul] at d1
          have d0 : 0 ≤ x131.toInt := by rw [tx131]; exact Int.ediv_nonneg (by omega) (by omega)
          have dl : x131.toInt < v4.toInt - v3.toInt := by rw [tx131, tx128]; exact Int.ediv_lt_of_lt_mul (by omega) (by rw [Int.mul_comm, ← e108]; omega)
          have e143 := Int.mul_comm x131.toInt r95.toInt
          refine lv_aload_n hx hb dX4_lastBegun_134 rfl (lv_at hl 3 rfl) ?_
          refine lv_dup hx hb dX4_lastBegun_135 rfl ?_
          refine va_get (D := G) (ci := 4) (v := .long yb) (C := RX4) (T := TX4) (N := 11) hx hb hts hiX4 hown hK hP 0 rfl rfl 10 (by decide) hf95 (fun _ h9 => h9) rfl dX4_lastBegun_136 ?_
          refine lv_lload hx hb dX4_lastBegun_139 (lv_at hl 0 rfl) ?_
          refine lv_lload hx hb dX4_lastBegun_141 (lv_at hl 2 rfl) ?_
          refine lv_lmul hx hb dX4_lastBegun_143 ?_
          refine lv_topl (fun x143 ex143 => ?_)
          have tx143 : x143.toInt = x131.toInt * r95.toInt := by rw [ex143]; exact tl_mul rfl tx98 (by omega) (by omega)
          refine lv_ladd hx hb dX4_lastBegun_144 ?_
          refine lv_topl (fun x144 ex144 => ?_)
          have tx144 : x144.toInt = yb.toInt + x143.toInt := by rw [ex144]; exact tl_add rfl rfl (by omega) (by omega)
          refine va_put (D := G) (ci := 4) (v := .long x144) (ty := .long) (C := RX4) (T := TX4) (N := 11) hx hb hts hiX4 tyX4 tyX4_ok nmX4 hown hK hP hD hS 0 rfl rfl 10 (by decide) hf95 (fun _ h9 => h9) rfl (by decide +kernel) rfl rfl (Nat.le_of_ble_eq_true rfl) dX4_lastBegun_145 (fun H locs hP hD hS => ?_)
          have hP : va_P G vwCl [(qy, .inr (4, [.ref qy1, .ref qy2, .ref qy3, .ref qy4, .int zM, .ref qy5, .ref qy6, .int zH, .ref qy7, .int zT, .long x144])), (qy1, .inl (cI, 40, .inl Mt)), (qy2, .inl (cI, 40, .inl Ms)), (qy3, .inl (cI, 40, .inl Mf)), (qy4, .inl (cI, 40, .inl Ml)), (qy5, .inl (cI, 20, .inl Ht)), (qy6, .inl (cI, 20, .inl Hu)), (qy7, .inl (cL, 40, .inr (.inl Tp)))] H := hP
          have hD : va_D A [(qy, .inr (4, [.ref qy1, .ref qy2, .ref qy3, .ref qy4, .int zM, .ref qy5, .ref qy6, .int zH, .ref qy7, .int zT, .long x144])), (qy1, .inl (cI, 40, .inl Mt)), (qy2, .inl (cI, 40, .inl Ms)), (qy3, .inl (cI, 40, .inl Mf)), (qy4, .inl (cI, 40, .inl Ml)), (qy5, .inl (cI, 20, .inl Ht)), (qy6, .inl (cI, 20, .inl Hu)), (qy7, .inl (cL, 40, .inr (.inl Tp)))] := hD
          refine lv_iload_n hx hb dX4_lastBegun_148 rfl (lv_at hl 5 rfl) ?_
          refine lv_lload hx hb dX4_lastBegun_149 (lv_at hl 0 rfl) ?_
          refine lv_l2i hx hb dX4_lastBegun_151 rfl ?_
          refine lv_topi (fun x151 ex151 => ?_)
          have tx151 : x151.toInt = x131.toInt := by rw [ex151]; exact tc_l2i rfl (by omega) (by omega)
          refine lv_iadd hx hb dX4_lastBegun_152 ?_
          refine lv_topi (fun x152 ex152 => ?_)
          have tx152 : x152.toInt = v3.toInt + x151.toInt := by rw [ex152]; exact ti_add rfl rfl (by omega) (by omega)
          have br1 := sB.1 (v3.toInt + x131.toInt).toNat (by omega) (by omega)
          rw [show (((v3.toInt + x131.toInt).toNat : Nat) : Int) - v3.toInt = x131.toInt by omega, ← e143] at br1
          have br2 : p0.toInt < Bg (paceF Mt Ms Mf Ml nm) Ht Hu nh ((v3.toInt + x131.toInt).toNat + 1) := by
            rcases Int.lt_or_le (v3.toInt + x131.toInt + 1) v4.toInt with q | q
            · have h1 := sB.1 ((v3.toInt + x131.toInt).toNat + 1) (by omega) (by omega)
              rw [show ((((v3.toInt + x131.toInt).toNat + 1 : Nat)) : Int) - v3.toInt = x131.toInt + 1 by omega, Int.mul_add, Int.mul_one] at h1
              omega
            · have h1 := sB.2
              rw [show v4.toInt.toNat = (v3.toInt + x131.toInt).toNat + 1 by omega] at h1
              have h2 : x108.toInt = r95.toInt * x131.toInt + r95.toInt := by rw [e108, show v4.toInt - v3.toInt = x131.toInt + 1 by omega, Int.mul_add, Int.mul_one]
              omega
          exact W.iret (v := x152) hx hb hr (fun t ht hW => ⟨⟨x152, x144, rfl, (by (try dsimp only); exact (by rw [tx152, tx151]; exact ⟨Or.inr (Or.inl ⟨by omega, by omega, by omega, br2⟩), fun _ _ => by omega⟩)), by rw [ht]; exact hP, hD⟩, hS.F ht⟩) hS.2.2 dX4_lastBegun_153
      · have k47 : (v5.toInt : Int) < zH.toInt := i_nle rfl rfl c47
        refine lv_aload_n hx hb dX4_lastBegun_50 rfl (lv_at hl 0 rfl) ?_
        refine va_get (D := G) (ci := 4) (v := .ref qy5) (C := RX4) (T := TX4) (N := 11) hx hb hts hiX4 hown hK hP 0 rfl rfl 5 (by decide) hf22 (fun _ h9 => h9) rfl dX4_lastBegun_51 ?_
        refine lv_iload hx hb dX4_lastBegun_54 (lv_at hl 4 rfl) ?_
        refine va_iald hx hb hK hP 5 0 rfl rfl (vi_in rfl (by omega) (by omega)) dX4_lastBegun_56 ?_
        refine lv_topi (fun x56 ex56 => ?_)
        have ex56 : x56 = Ht v5.toInt.toNat := by rw [ex56]; exact congrArg _ (cl_nat rfl (by omega))
        have tx56 : x56.toInt = (Ht v5.toInt.toNat).toInt := by rw [ex56]
        have hrh_x56 := hrh v5.toInt.toNat (by omega)
        refine lv_iload_n hx hb dX4_lastBegun_57 rfl (lv_at hl 2 rfl) ?_
        refine lv_icmp_le (tgt := 83) hx hb dX4_lastBegun_58 (by decide) (fun c58 => ?_) (fun c58 => ?_)
        · have k58 : (x56.toInt : Int) ≤ v3.toInt := i_le rfl rfl c58
          refine lv_iload hx hb dX4_lastBegun_83 (lv_at hl 3 rfl) ?_
          refine lv_istore (lv' := [(4, .int v4), (0, .ref qy), (1, .long p0), (3, .int v3), (5, .int v5)]) hx hb dX4_lastBegun_85  hl (by decide) rfl (fun ls hl => ?_)
          obtain ⟨x87, ex87⟩ : ∃ y : Int32, y = v5 + 1 := ⟨_, rfl⟩
          have tx87 : x87.toInt = v5.toInt + 1 := by rw [ex87]; exact ti_add rfl (by decide) (by omega) (by omega)
          refine lv_iinc (v := x87) (lv' := [(5, .int x87), (4, .int v4), (0, .ref qy), (1, .long p0), (3, .int v3)]) hx hb dX4_lastBegun_87 hl (k := 4) rfl (by rw [ex87]; rfl) (by decide) rfl (fun ls hl => ?_)
          refine lv_goto (tgt := 41) hx hb dX4_lastBegun_90 (by decide) ?_
          exact ih41 v4 x87 ls _ _ ⟨hP, hD, hS, lv_sub hl [2, 3, 4, 1, 0] rfl, (show 0 ≤ x87.toInt ∧ x87.toInt ≤ nh from by omega), (show v3.toInt < v4.toInt ∧ v4.toInt ≤ r33.toInt from by omega), (show ∀ k : Nat, k < nh → (k : Int) < x87.toInt → v3.toInt < (Ht k).toInt → v4.toInt ≤ (Ht k).toInt from fun k hk h h2 => (Decidable.em ((k : Int) < v5.toInt)).elim (fun q => by have := i4 k hk q h2; omega) (fun q => by rw [show k = v5.toInt.toNat by omega] at h2 ⊢; omega))⟩ (show (nh - x87.toInt).toNat < (nh - v5.toInt).toNat from by omega)
        · have k58 : (v3.toInt : Int) < x56.toInt := i_nle rfl rfl c58
          refine lv_aload_n hx hb dX4_lastBegun_61 rfl (lv_at hl 0 rfl) ?_
          refine va_get (D := G) (ci := 4) (v := .ref qy5) (C := RX4) (T := TX4) (N := 11) hx hb hts hiX4 hown hK hP 0 rfl rfl 5 (by decide) hf22 (fun _ h9 => h9) rfl dX4_lastBegun_62 ?_
          refine lv_iload hx hb dX4_lastBegun_65 (lv_at hl 4 rfl) ?_
          refine va_iald hx hb hK hP 5 0 rfl rfl (vi_in rfl (by omega) (by omega)) dX4_lastBegun_67 ?_
          refine lv_topi (fun x67 ex67 => ?_)
          have ex67 : x67 = Ht v5.toInt.toNat := by rw [ex67]; exact congrArg _ (cl_nat rfl (by omega))
          have tx67 : x67.toInt = (Ht v5.toInt.toNat).toInt := by rw [ex67]
          have hrh_x67 := hrh v5.toInt.toNat (by omega)
          refine lv_iload hx hb dX4_lastBegun_68 (lv_at hl 3 rfl) ?_
          refine lv_icmp_ge (tgt := 83) hx hb dX4_lastBegun_70 (by decide) (fun c70 => ?_) (fun c70 => ?_)
          · have k70 : (v4.toInt : Int) ≤ x67.toInt := i_le rfl rfl c70
            refine lv_iload hx hb dX4_lastBegun_83 (lv_at hl 3 rfl) ?_
            refine lv_istore (lv' := [(4, .int v4), (0, .ref qy), (1, .long p0), (3, .int v3), (5, .int v5)]) hx hb dX4_lastBegun_85  hl (by decide) rfl (fun ls hl => ?_)
            obtain ⟨x87_2, ex87_2⟩ : ∃ y : Int32, y = v5 + 1 := ⟨_, rfl⟩
            have tx87_2 : x87_2.toInt = v5.toInt + 1 := by rw [ex87_2]; exact ti_add rfl (by decide) (by omega) (by omega)
            refine lv_iinc (v := x87_2) (lv' := [(5, .int x87_2), (4, .int v4), (0, .ref qy), (1, .long p0), (3, .int v3)]) hx hb dX4_lastBegun_87 hl (k := 4) rfl (by rw [ex87_2]; rfl) (by decide) rfl (fun ls hl => ?_)
            refine lv_goto (tgt := 41) hx hb dX4_lastBegun_90 (by decide) ?_
            exact ih41 v4 x87_2 ls _ _ ⟨hP, hD, hS, lv_sub hl [2, 3, 4, 1, 0] rfl, (show 0 ≤ x87_2.toInt ∧ x87_2.toInt ≤ nh from by omega), (show v3.toInt < v4.toInt ∧ v4.toInt ≤ r33.toInt from by omega), (show ∀ k : Nat, k < nh → (k : Int) < x87_2.toInt → v3.toInt < (Ht k).toInt → v4.toInt ≤ (Ht k).toInt from fun k hk h h2 => (Decidable.em ((k : Int) < v5.toInt)).elim (fun q => by have := i4 k hk q h2; omega) (fun q => by rw [show k = v5.toInt.toNat by omega] at h2 ⊢; omega))⟩ (show (nh - x87_2.toInt).toNat < (nh - v5.toInt).toNat from by omega)
          · have k70 : (x67.toInt : Int) < v4.toInt := i_nle rfl rfl c70
            refine lv_aload_n hx hb dX4_lastBegun_73 rfl (lv_at hl 0 rfl) ?_
            refine va_get (D := G) (ci := 4) (v := .ref qy5) (C := RX4) (T := TX4) (N := 11) hx hb hts hiX4 hown hK hP 0 rfl rfl 5 (by decide) hf22 (fun _ h9 => h9) rfl dX4_lastBegun_74 ?_
            refine lv_iload hx hb dX4_lastBegun_77 (lv_at hl 4 rfl) ?_
            refine va_iald hx hb hK hP 5 0 rfl rfl (vi_in rfl (by omega) (by omega)) dX4_lastBegun_79 ?_
            refine lv_topi (fun x79 ex79 => ?_)
            have ex79 : x79 = Ht v5.toInt.toNat := by rw [ex79]; exact congrArg _ (cl_nat rfl (by omega))
            have tx79 : x79.toInt = (Ht v5.toInt.toNat).toInt := by rw [ex79]
            have hrh_x79 := hrh v5.toInt.toNat (by omega)
            refine lv_goto (tgt := 85) hx hb dX4_lastBegun_80 (by decide) ?_
            refine lv_istore (lv' := [(4, .int x79), (0, .ref qy), (1, .long p0), (3, .int v3), (5, .int v5)]) hx hb dX4_lastBegun_85  hl (by decide) rfl (fun ls hl => ?_)
            obtain ⟨x87_3, ex87_3⟩ : ∃ y : Int32, y = v5 + 1 := ⟨_, rfl⟩
            have tx87_3 : x87_3.toInt = v5.toInt + 1 := by rw [ex87_3]; exact ti_add rfl (by decide) (by omega) (by omega)
            refine lv_iinc (v := x87_3) (lv' := [(5, .int x87_3), (4, .int x79), (0, .ref qy), (1, .long p0), (3, .int v3)]) hx hb dX4_lastBegun_87 hl (k := 4) rfl (by rw [ex87_3]; rfl) (by decide) rfl (fun ls hl => ?_)
            refine lv_goto (tgt := 41) hx hb dX4_lastBegun_90 (by decide) ?_
            exact ih41 x79 x87_3 ls _ _ ⟨hP, hD, hS, lv_sub hl [2, 3, 4, 1, 0] rfl, (show 0 ≤ x87_3.toInt ∧ x87_3.toInt ≤ nh from by omega), (show v3.toInt < x79.toInt ∧ x79.toInt ≤ r33.toInt from by omega), (show ∀ k : Nat, k < nh → (k : Int) < x87_3.toInt → v3.toInt < (Ht k).toInt → x79.toInt ≤ (Ht k).toInt from fun k hk h h2 => (Decidable.em ((k : Int) < v5.toInt)).elim (fun q => by have := i4 k hk q h2; omega) (fun q => by rw [show k = v5.toInt.toNat by omega] at h2 ⊢; omega))⟩ (show (nh - x87_3.toInt).toNat < (nh - v5.toInt).toNat from by omega)
  · have k16 : (p0.toInt : Int) < r3.toInt := l_nle tx6 rfl (fun h9 => c16 ((lg_cmp_ge _ _).mpr h9))
    refine lv_iconst (v := (-1)) hx hb dX4_lastBegun_19 (by decide) ?_
    exact W.iret (v := (-1)) hx hb hr (fun t ht hW => ⟨⟨(-1), x6, rfl, (by (try dsimp only); exact ⟨Or.inl ⟨by omega, by omega⟩, fun h => by omega⟩), by rw [ht]; exact hP, hD⟩, hS.F ht⟩) hS.2.2 dX4_lastBegun_20

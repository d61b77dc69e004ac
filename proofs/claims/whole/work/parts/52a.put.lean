set_option maxHeartbeats 1000000 in
set_option maxRecDepth 100000 in
theorem ct_X4_put (l : Launch) (G : va_G) (cI cL : ClassId) (sz : Nat) (qy : Nat) (qy1 : Nat) (qy2 : Nat) (qy3 : Nat) (qy4 : Nat) (qy5 : Nat) (qy6 : Nat) (qy7 : Nat) (zM : Int32) (zH : Int32) (zT : Int32) (bg : Int64) (Mt : Nat → Int32) (Ms : Nat → Int32) (Mf : Nat → Int32) (Ml : Nat → Int32) (Ht : Nat → Int32) (Hu : Nat → Int32) (Tp : Nat → Int64) (p0 : Int32) (p1 : Int32) (p2 : Int32) (p3 : Int32) (nm : Nat) (hnM : zM.toInt = nm) (hOM : okM nm Mt Ms Mf Ml) (nh : Nat) (hnH : zH.toInt = nh) (hOH : okH nh Ht Hu) (nt : Nat) (hnT : zT.toInt = nt) (hOT : okT nt Tp) (hx0 : 0 ≤ p0.toInt ∧ p0.toInt ≤ 999999) (hx1 : 0 ≤ p1.toInt ∧ p1.toInt ≤ 2000) : Met l yX4_put wsX4_put ({ frames := 1, cells := 0, slots := 0, locals := 24 }) (va_Pc [.ref qy, .int p0, .int p1, .int p2, .int p3] (pre0 G cI cL [(qy, .inr (4, [.ref qy1, .ref qy2, .ref qy3, .ref qy4, .int zM, .ref qy5, .ref qy6, .int zH, .ref qy7, .int zT, .long bg])), (qy1, .inl (cI, 40, .inl Mt)), (qy2, .inl (cI, 40, .inl Ms)), (qy3, .inl (cI, 40, .inl Mf)), (qy4, .inl (cI, 40, .inl Ml)), (qy5, .inl (cI, 20, .inl Ht)), (qy6, .inl (cI, 20, .inl Hu)), (qy7, .inl (cL, 40, .inr (.inl Tp)))] sz)) (va_Qi (fun (r : Int32) (u : Int32 × (Nat → Int32) × (Nat → Int32) × (Nat → Int32) × (Nat → Int32)) => ∃ n' : Nat, u.1.toInt = n' ∧ pIns nm Mt Ms Mf Ml p0 p1 p2 p3 r.toInt n' u.2.1 u.2.2.1 u.2.2.2.1 u.2.2.2.2) (fun (u : Int32 × (Nat → Int32) × (Nat → Int32) × (Nat → Int32) × (Nat → Int32)) t => va_P G vwCl [(qy, .inr (4, [.ref qy1, .ref qy2, .ref qy3, .ref qy4, .int u.1, .ref qy5, .ref qy6, .int zH, .ref qy7, .int zT, .long bg])), (qy1, .inl (cI, 40, .inl (u.2.1))), (qy2, .inl (cI, 40, .inl (u.2.2.1))), (qy3, .inl (cI, 40, .inl (u.2.2.2.1))), (qy4, .inl (cI, 40, .inl (u.2.2.2.2))), (qy5, .inl (cI, 20, .inl Ht)), (qy6, .inl (cI, 20, .inl Hu)), (qy7, .inl (cL, 40, .inr (.inl Tp)))] t.heap ∧ va_D (va_A [(qy, .inr (4, [.ref qy1, .ref qy2, .ref qy3, .ref qy4, .int zM, .ref qy5, .ref qy6, .int zH, .ref qy7, .int zT, .long bg])), (qy1, .inl (cI, 40, .inl Mt)), (qy2, .inl (cI, 40, .inl Ms)), (qy3, .inl (cI, 40, .inl Mf)), (qy4, .inl (cI, 40, .inl Ml)), (qy5, .inl (cI, 20, .inl Ht)), (qy6, .inl (cI, 20, .inl Hu)), (qy7, .inl (cL, 40, .inr (.inl Tp)))] sz) [(qy, .inr (4, [.ref qy1, .ref qy2, .ref qy3, .ref qy4, .int u.1, .ref qy5, .ref qy6, .int zH, .ref qy7, .int zT, .long bg])), (qy1, .inl (cI, 40, .inl (u.2.1))), (qy2, .inl (cI, 40, .inl (u.2.2.1))), (qy3, .inl (cI, 40, .inl (u.2.2.2.1))), (qy4, .inl (cI, 40, .inl (u.2.2.2.2))), (qy5, .inl (cI, 20, .inl Ht)), (qy6, .inl (cI, 20, .inl Hu)), (qy7, .inl (cL, 40, .inr (.inl Tp)))]) (va_A [(qy, .inr (4, [.ref qy1, .ref qy2, .ref qy3, .ref qy4, .int zM, .ref qy5, .ref qy6, .int zH, .ref qy7, .int zT, .long bg])), (qy1, .inl (cI, 40, .inl Mt)), (qy2, .inl (cI, 40, .inl Ms)), (qy3, .inl (cI, 40, .inl Mf)), (qy4, .inl (cI, 40, .inl Ml)), (qy5, .inl (cI, 20, .inl Ht)), (qy6, .inl (cI, 20, .inl Hu)), (qy7, .inl (cL, 40, .inr (.inl Tp)))] sz)) 0 0 (va_A [(qy, .inr (4, [.ref qy1, .ref qy2, .ref qy3, .ref qy4, .int zM, .ref qy5, .ref qy6, .int zH, .ref qy7, .int zT, .long bg])), (qy1, .inl (cI, 40, .inl Mt)), (qy2, .inl (cI, 40, .inl Ms)), (qy3, .inl (cI, 40, .inl Mf)), (qy4, .inl (cI, 40, .inl Ml)), (qy5, .inl (cI, 20, .inl Ht)), (qy6, .inl (cI, 20, .inl Hu)), (qy7, .inl (cL, 40, .inr (.inl Tp)))] sz) := by
  refine Met.ofW (cc := cX4_put) (maxL := 6) (ret := (some .int)) (by decide) rfl ?_
  intro p e s m args below meth c s₁ B hml hv
  obtain ⟨rfl, hsz, hP, hK, hD0, hN⟩ := hv
  have hx := B.exec
  have hb := B.bytes
  have hr := B.returns
  have hts := atoms_spec (ws := wsX4_put) B.pre
  have hown : s.vm.findClass RX4 = some m.cls := findClass_of_methodNamed B.named
  have hlocks := B.notSynchronized
  subst hsz
  have hD := hD0.self (sz := s.heap.size)
  generalize hAe : va_A [(qy, .inr (4, [.ref qy1, .ref qy2, .ref qy3, .ref qy4, .int zM, .ref qy5, .ref qy6, .int zH, .ref qy7, .int zT, .long bg])), (qy1, .inl (cI, 40, .inl Mt)), (qy2, .inl (cI, 40, .inl Ms)), (qy3, .inl (cI, 40, .inl Mf)), (qy4, .inl (cI, 40, .inl Ml)), (qy5, .inl (cI, 20, .inl Ht)), (qy6, .inl (cI, 20, .inl Hu)), (qy7, .inl (cL, 40, .inr (.inl Tp)))] s.heap.size = A at hD ⊢
  have hA : ∀ q : Nat, s.heap.size ≤ q → A q := fun q h => by rw [← hAe]; exact Or.inr h
  have hP : va_P G vwCl [(qy, .inr (4, [.ref qy1, .ref qy2, .ref qy3, .ref qy4, .int zM, .ref qy5, .ref qy6, .int zH, .ref qy7, .int zT, .long bg])), (qy1, .inl (cI, 40, .inl Mt)), (qy2, .inl (cI, 40, .inl Ms)), (qy3, .inl (cI, 40, .inl Mf)), (qy4, .inl (cI, 40, .inl Ml)), (qy5, .inl (cI, 20, .inl Ht)), (qy6, .inl (cI, 20, .inl Hu)), (qy7, .inl (cL, 40, .inr (.inl Tp)))] s.heap := hP
  have hl := lv_entry ([.ref qy, .int p0, .int p1, .int p2, .int p3]) (n := 6) (Nat.le_of_ble_eq_true rfl)
  rw [lg_entry_eq]
  generalize (lg_sl ([.ref qy, .int p0, .int p1, .int p2, .int p3]) ++ List.replicate (6 - (lg_sl ([.ref qy, .int p0, .int p1, .int p2, .int p3])).length) Slot.unset).toArray = ls at hl ⊢
  have hl : lv_has ls 6 [(0, .ref qy), (1, .int p0), (2, .int p1), (3, .int p2), (4, .int p3)] := hl
  have hf32 := hts (.fieldLink RX4 32 "TempoMapsModel" "marks" "I") (by decide +kernel)
  have hf7 := hts (.fieldLink RX4 7 "TempoMapsModel" "markTick" "[I") (by decide +kernel)
  have hf13 := hts (.fieldLink RX4 13 "TempoMapsModel" "markLong" "[I") (by decide +kernel)
  have hf16 := hts (.fieldLink RX4 16 "TempoMapsModel" "markFrom" "[I") (by decide +kernel)
  have hf19 := hts (.fieldLink RX4 19 "TempoMapsModel" "markTo" "[I") (by decide +kernel)
  have hiX4 : ∀ w ∈ wsX40, w ∈ wsX4_put := by decide +kernel
  have zim4 : ((-4 : Int32)).toInt = -4 := by decide
  have zim3 : ((-3 : Int32)).toInt = -3 := by decide
  have zim1 : ((-1 : Int32)).toInt = -1 := by decide
  have zi1 : ((1 : Int32)).toInt = 1 := by decide
  have zi40 : ((40 : Int32)).toInt = 40 := by decide
  refine w_h (A := A) hP (fun H locs hP hS => ?_)
  have hn40 := hOM.1
  have hrg := hOM.2.1
  have hn20 := hOH.1
  have hrh := hOH.2.1
  have hn41 := hOT.1
  have hrt := hOT.2.1
  have zz0 : ((0 : Int32)).toInt = 0 := by decide
  refine lv_aload_n hx hb dX4_put_0 rfl (lv_at hl 0 rfl) ?_
  refine lv_iload_n hx hb dX4_put_1 rfl (lv_at hl 1 rfl) ?_
  have hPc := hP.sub (ws' := [(qy, .inr (4, [.ref qy1, .ref qy2, .ref qy3, .ref qy4, .int zM, .ref qy5, .ref qy6, .int zH, .ref qy7, .int zT, .long bg])), (qy1, .inl (cI, 40, .inl Mt)), (qy2, .inl (cI, 40, .inl Ms)), (qy3, .inl (cI, 40, .inl Mf)), (qy4, .inl (cI, 40, .inl Ml)), (qy5, .inl (cI, 20, .inl Ht)), (qy6, .inl (cI, 20, .inl Hu)), (qy7, .inl (cL, 40, .inr (.inl Tp)))]) [0, 1, 2, 3, 4, 5, 6, 7] rfl
  have hDc := hD.sub (ws' := [(qy, .inr (4, [.ref qy1, .ref qy2, .ref qy3, .ref qy4, .int zM, .ref qy5, .ref qy6, .int zH, .ref qy7, .int zT, .long bg])), (qy1, .inl (cI, 40, .inl Mt)), (qy2, .inl (cI, 40, .inl Ms)), (qy3, .inl (cI, 40, .inl Mf)), (qy4, .inl (cI, 40, .inl Ml)), (qy5, .inl (cI, 20, .inl Ht)), (qy6, .inl (cI, 20, .inl Hu)), (qy7, .inl (cL, 40, .inr (.inl Tp)))]) [0, 1, 2, 3, 4, 5, 6, 7] (by decide) rfl
  have hcc := (ct_X4_markAt l G cI cL H.size qy qy1 qy2 qy3 qy4 qy5 qy6 qy7 zM zH zT bg Mt Ms Mf Ml Ht Hu Tp p0 nm hnM hOM nh hnH hOH nt hnT hOT)
  refine ro_calli (va_runV (As := [.int p0]) (rest := []) ⟨hx, hb, hml, hown, hts⟩ hcc (cwV 1 hts gX4_put_X4_markAt rfl rfl rfl (by decide +kernel) ⟨Nat.le_of_ble_eq_true rfl, Nat.le_of_ble_eq_true rfl⟩) ⟨pre_blind, va_recv hK hPc (ci := 4) (q0 := 0) rfl rfl, pre_pass hK hN hPc hDc⟩ rfl rfl hl.1 rfl (lv_room (Nat.le_of_ble_eq_true rfl)) dX4_put_2 ⟨Nat.le_of_ble_eq_true rfl, Nat.le_of_ble_eq_true rfl⟩) hP hD hS hA [0, 1, 2, 3, 4, 5, 6, 7] rfl (fun r2 H locs hw2 hP hS => ?_)
  try dsimp only at hw2
  have hf := hfind_rng (t := Mt) (x := p0.toInt) nm
  try rw [← hw2] at hf
  refine lv_istore (lv' := [(5, .int r2), (0, .ref qy), (1, .int p0), (2, .int p1), (3, .int p2), (4, .int p3)]) hx hb dX4_put_5  hl (by decide) rfl (fun ls hl => ?_)
  refine lv_aload_n hx hb dX4_put_7 rfl (lv_at hl 1 rfl) ?_
  refine lv_iload_n hx hb dX4_put_8 rfl (lv_at hl 2 rfl) ?_
  refine lv_iload hx hb dX4_put_9 (lv_at hl 0 rfl) ?_
  have hPc := hP.sub (ws' := [(qy, .inr (4, [.ref qy1, .ref qy2, .ref qy3, .ref qy4, .int zM, .ref qy5, .ref qy6, .int zH, .ref qy7, .int zT, .long bg])), (qy1, .inl (cI, 40, .inl Mt)), (qy2, .inl (cI, 40, .inl Ms)), (qy3, .inl (cI, 40, .inl Mf)), (qy4, .inl (cI, 40, .inl Ml)), (qy5, .inl (cI, 20, .inl Ht)), (qy6, .inl (cI, 20, .inl Hu)), (qy7, .inl (cL, 40, .inr (.inl Tp)))]) [0, 1, 2, 3, 4, 5, 6, 7] rfl
  have hDc := hD.sub (ws' := [(qy, .inr (4, [.ref qy1, .ref qy2, .ref qy3, .ref qy4, .int zM, .ref qy5, .ref qy6, .int zH, .ref qy7, .int zT, .long bg])), (qy1, .inl (cI, 40, .inl Mt)), (qy2, .inl (cI, 40, .inl Ms)), (qy3, .inl (cI, 40, .inl Mf)), (qy4, .inl (cI, 40, .inl Ml)), (qy5, .inl (cI, 20, .inl Ht)), (qy6, .inl (cI, 20, .inl Hu)), (qy7, .inl (cL, 40, .inr (.inl Tp)))]) [0, 1, 2, 3, 4, 5, 6, 7] (by decide) rfl
  have hcc := (ct_X4_isWithin l G cI cL H.size qy qy1 qy2 qy3 qy4 qy5 qy6 qy7 zM zH zT bg Mt Ms Mf Ml Ht Hu Tp p0 r2 nm hnM hOM nh hnH hOH nt hnT hOT ((fun k hk e => by have h9 := hf.2.2 (by omega); rw [show r2.toInt.toNat = k by omega] at h9; exact h9)))
  refine ro_calli (va_runV (As := [.int p0, .int r2]) (rest := []) ⟨hx, hb, hml, hown, hts⟩ hcc (cwV 2 hts gX4_put_X4_isWithin rfl rfl rfl (by decide +kernel) ⟨Nat.le_of_ble_eq_true rfl, Nat.le_of_ble_eq_true rfl⟩) ⟨pre_blind, va_recv hK hPc (ci := 4) (q0 := 0) rfl rfl, pre_pass hK hN hPc hDc⟩ rfl rfl hl.1 rfl (lv_room (Nat.le_of_ble_eq_true rfl)) dX4_put_11 ⟨Nat.le_of_ble_eq_true rfl, Nat.le_of_ble_eq_true rfl⟩) hP hD hS hA [0, 1, 2, 3, 4, 5, 6, 7] rfl (fun r11 H locs hw11 hP hS => ?_)
  try dsimp only at hw11
  refine lv_if_ne (tgt := 26) hx hb dX4_put_14 (by decide) (fun c14 => ?_) (fun c14 => ?_)
  · have k14 : (r11.toInt : Int) ≠ 0 := i_ne rfl (show ((0 : Int32)).toInt = 0 by decide) c14
    have ii : insS nm Mt Ms p0.toInt ∨ btw nm Mt p0.toInt (p0.toInt + p1.toInt) := by rcases hw11 with h | h; exact Or.inl h.2; omega
    refine lv_bipush (v := (-3)) hx hb dX4_put_26 (by decide) ?_
    exact W.iret (v := (-3)) hx hb hr (fun t ht hW => ⟨⟨(-3), (zM, Mt, Ms, Mf, Ml), rfl, (by (try dsimp only); exact ⟨nm, hnM, Or.inl ⟨ii, by omega, rfl, rfl, rfl, rfl, rfl⟩⟩), by rw [ht]; exact hP, hD⟩, hS.F ht⟩) hS.2.2 dX4_put_28
  · have k14 : (r11.toInt : Int) = 0 := i_eq rfl (show ((0 : Int32)).toInt = 0 by decide) c14
    have ni : ¬ insS nm Mt Ms p0.toInt := by rcases hw11 with h | h; omega; exact h.2
    refine lv_aload_n hx hb dX4_put_17 rfl (lv_at hl 1 rfl) ?_
    refine lv_iload_n hx hb dX4_put_18 rfl (lv_at hl 2 rfl) ?_
    refine lv_iload_n hx hb dX4_put_19 rfl (lv_at hl 3 rfl) ?_
    have hPc := hP.sub (ws' := [(qy, .inr (4, [.ref qy1, .ref qy2, .ref qy3, .ref qy4, .int zM, .ref qy5, .ref qy6, .int zH, .ref qy7, .int zT, .long bg])), (qy1, .inl (cI, 40, .inl Mt)), (qy2, .inl (cI, 40, .inl Ms)), (qy3, .inl (cI, 40, .inl Mf)), (qy4, .inl (cI, 40, .inl Ml)), (qy5, .inl (cI, 20, .inl Ht)), (qy6, .inl (cI, 20, .inl Hu)), (qy7, .inl (cL, 40, .inr (.inl Tp)))]) [0, 1, 2, 3, 4, 5, 6, 7] rfl
    have hDc := hD.sub (ws' := [(qy, .inr (4, [.ref qy1, .ref qy2, .ref qy3, .ref qy4, .int zM, .ref qy5, .ref qy6, .int zH, .ref qy7, .int zT, .long bg])), (qy1, .inl (cI, 40, .inl Mt)), (qy2, .inl (cI, 40, .inl Ms)), (qy3, .inl (cI, 40, .inl Mf)), (qy4, .inl (cI, 40, .inl Ml)), (qy5, .inl (cI, 20, .inl Ht)), (qy6, .inl (cI, 20, .inl Hu)), (qy7, .inl (cL, 40, .inr (.inl Tp)))]) [0, 1, 2, 3, 4, 5, 6, 7] (by decide) rfl
    have hcc := (ct_X4_holdsOther l G cI cL H.size qy qy1 qy2 qy3 qy4 qy5 qy6 qy7 zM zH zT bg Mt Ms Mf Ml Ht Hu Tp p0 p1 nm hnM hOM nh hnH hOH nt hnT hOT (by omega))
    refine ro_calli (va_runV (As := [.int p0, .int p1]) (rest := []) ⟨hx, hb, hml, hown, hts⟩ hcc (cwV 2 hts gX4_put_X4_holdsOther rfl rfl rfl (by decide +kernel) ⟨Nat.le_of_ble_eq_true rfl, Nat.le_of_ble_eq_true rfl⟩) ⟨pre_blind, va_recv hK hPc (ci := 4) (q0 := 0) rfl rfl, pre_pass hK hN hPc hDc⟩ rfl rfl hl.1 rfl (lv_room (Nat.le_of_ble_eq_true rfl)) dX4_put_20 ⟨Nat.le_of_ble_eq_true rfl, Nat.le_of_ble_eq_true rfl⟩) hP hD hS hA [0, 1, 2, 3, 4, 5, 6, 7] rfl (fun r20 H locs hw20 hP hS => ?_)
    try dsimp only at hw20
    refine lv_if_eq (tgt := 29) hx hb dX4_put_23 (by decide) (fun c23 => ?_) (fun c23 => ?_)
    · have k23 : (r20.toInt : Int) = 0 := i_eq rfl (show ((0 : Int32)).toInt = 0 by decide) c23
      have nb : ¬ btw nm Mt p0.toInt (p0.toInt + p1.toInt) := by rcases hw20 with h | h; omega; exact h.2
      refine lv_iload hx hb dX4_put_29 (lv_at hl 0 rfl) ?_
      refine lv_iconst (v := (-1)) hx hb dX4_put_31 (by decide) ?_
      refine lv_icmp_ne (tgt := 47) hx hb dX4_put_32 (by decide) (fun c32 => ?_) (fun c32 => ?_)
      · have k32 : (r2.toInt : Int) ≠ (-1) := i_ne rfl (show ((-1 : Int32)).toInt = -1 by decide) c32
        refine lv_iload hx hb dX4_put_47 (lv_at hl 0 rfl) ?_
        refine lv_iconst (v := (-1)) hx hb dX4_put_49 (by decide) ?_
        refine lv_icmp_ne (tgt := 69) hx hb dX4_put_50 (by decide) (fun c50 => ?_) (fun c50 => ?_)
        · have k50 : (r2.toInt : Int) ≠ (-1) := i_ne rfl (show ((-1 : Int32)).toInt = -1 by decide) c50
          have dd := k50
          refine lv_aload_n hx hb dX4_put_69 rfl (lv_at hl 1 rfl) ?_
          refine va_get (D := G) (ci := 4) (v := .ref qy1) (C := RX4) (T := TX4) (N := 11) hx hb hts hiX4 hown hK hP 0 rfl rfl 0 (by decide) hf7 (fun _ h9 => h9) rfl dX4_put_70 ?_
          refine lv_iload hx hb dX4_put_73 (lv_at hl 0 rfl) ?_
          refine lv_iload_n hx hb dX4_put_75 rfl (lv_at hl 2 rfl) ?_
          refine va_iast hx hb hK hP hD hS 1 0 rfl rfl (vi_in rfl (by omega) (by omega)) dX4_put_76 (fun H locs hP hD hS => ?_)
          rw [cl_nat rfl (show r2.toInt = ((r2.toInt.toNat : Nat) : Int) by omega)] at hP hD
          have hP : va_P G vwCl [(qy, .inr (4, [.ref qy1, .ref qy2, .ref qy3, .ref qy4, .int zM, .ref qy5, .ref qy6, .int zH, .ref qy7, .int zT, .long bg])), (qy1, .inl (cI, 40, .inl (upd Mt r2.toInt.toNat p0))), (qy2, .inl (cI, 40, .inl Ms)), (qy3, .inl (cI, 40, .inl Mf)), (qy4, .inl (cI, 40, .inl Ml)), (qy5, .inl (cI, 20, .inl Ht)), (qy6, .inl (cI, 20, .inl Hu)), (qy7, .inl (cL, 40, .inr (.inl Tp)))] H := hP
          have hD : va_D A [(qy, .inr (4, [.ref qy1, .ref qy2, .ref qy3, .ref qy4, .int zM, .ref qy5, .ref qy6, .int zH, .ref qy7, .int zT, .long bg])), (qy1, .inl (cI, 40, .inl (upd Mt r2.toInt.toNat p0))), (qy2, .inl (cI, 40, .inl Ms)), (qy3, .inl (cI, 40, .inl Mf)), (qy4, .inl (cI, 40, .inl Ml)), (qy5, .inl (cI, 20, .inl Ht)), (qy6, .inl (cI, 20, .inl Hu)), (qy7, .inl (cL, 40, .inr (.inl Tp)))] := hD
          refine lv_aload_n hx hb dX4_put_77 rfl (lv_at hl 1 rfl) ?_
          refine va_get (D := G) (ci := 4) (v := .ref qy2) (C := RX4) (T := TX4) (N := 11) hx hb hts hiX4 hown hK hP 0 rfl rfl 1 (by decide) hf13 (fun _ h9 => h9) rfl dX4_put_78 ?_
          refine lv_iload hx hb dX4_put_81 (lv_at hl 0 rfl) ?_
          refine lv_iload_n hx hb dX4_put_83 rfl (lv_at hl 3 rfl) ?_
          refine va_iast hx hb hK hP hD hS 2 0 rfl rfl (vi_in rfl (by omega) (by omega)) dX4_put_84 (fun H locs hP hD hS => ?_)
          rw [cl_nat rfl (show r2.toInt = ((r2.toInt.toNat : Nat) : Int) by omega)] at hP hD
          have hP : va_P G vwCl [(qy, .inr (4, [.ref qy1, .ref qy2, .ref qy3, .ref qy4, .int zM, .ref qy5, .ref qy6, .int zH, .ref qy7, .int zT, .long bg])), (qy1, .inl (cI, 40, .inl (upd Mt r2.toInt.toNat p0))), (qy2, .inl (cI, 40, .inl (upd Ms r2.toInt.toNat p1))), (qy3, .inl (cI, 40, .inl Mf)), (qy4, .inl (cI, 40, .inl Ml)), (qy5, .inl (cI, 20, .inl Ht)), (qy6, .inl (cI, 20, .inl Hu)), (qy7, .inl (cL, 40, .inr (.inl Tp)))] H := hP
          have hD : va_D A [(qy, .inr (4, [.ref qy1, .ref qy2, .ref qy3, .ref qy4, .int zM, .ref qy5, .ref qy6, .int zH, .ref qy7, .int zT, .long bg])), (qy1, .inl (cI, 40, .inl (upd Mt r2.toInt.toNat p0))), (qy2, .inl (cI, 40, .inl (upd Ms r2.toInt.toNat p1))), (qy3, .inl (cI, 40, .inl Mf)), (qy4, .inl (cI, 40, .inl Ml)), (qy5, .inl (cI, 20, .inl Ht)), (qy6, .inl (cI, 20, .inl Hu)), (qy7, .inl (cL, 40, .inr (.inl Tp)))] := hD
          refine lv_aload_n hx hb dX4_put_85 rfl (lv_at hl 1 rfl) ?_
          refine va_get (D := G) (ci := 4) (v := .ref qy3) (C := RX4) (T := TX4) (N := 11) hx hb hts hiX4 hown hK hP 0 rfl rfl 2 (by decide) hf16 (fun _ h9 => h9) rfl dX4_put_86 ?_
          refine lv_iload hx hb dX4_put_89 (lv_at hl 0 rfl) ?_
          refine lv_iload_n hx hb dX4_put_91 rfl (lv_at hl 4 rfl) ?_
          refine va_iast hx hb hK hP hD hS 3 0 rfl rfl (vi_in rfl (by omega) (by omega)) dX4_put_92 (fun H locs hP hD hS => ?_)
          rw [cl_nat rfl (show r2.toInt = ((r2.toInt.toNat : Nat) : Int) by omega)] at hP hD
          have hP : va_P G vwCl [(qy, .inr (4, [.ref qy1, .ref qy2, .ref qy3, .ref qy4, .int zM, .ref qy5, .ref qy6, .int zH, .ref qy7, .int zT, .long bg])), (qy1, .inl (cI, 40, .inl (upd Mt r2.toInt.toNat p0))), (qy2, .inl (cI, 40, .inl (upd Ms r2.toInt.toNat p1))), (qy3, .inl (cI, 40, .inl (upd Mf r2.toInt.toNat p2))), (qy4, .inl (cI, 40, .inl Ml)), (qy5, .inl (cI, 20, .inl Ht)), (qy6, .inl (cI, 20, .inl Hu)), (qy7, .inl (cL, 40, .inr (.inl Tp)))] H := hP
          have hD : va_D A [(qy, .inr (4, [.ref qy1, .ref qy2, .ref qy3, .ref qy4, .int zM, .ref qy5, .ref qy6, .int zH, .ref qy7, .int zT, .long bg])), (qy1, .inl (cI, 40, .inl (upd Mt r2.toInt.toNat p0))), (qy2, .inl (cI, 40, .inl (upd Ms r2.toInt.toNat p1))), (qy3, .inl (cI, 40, .inl (upd Mf r2.toInt.toNat p2))), (qy4, .inl (cI, 40, .inl Ml)), (qy5, .inl (cI, 20, .inl Ht)), (qy6, .inl (cI, 20, .inl Hu)), (qy7, .inl (cL, 40, .inr (.inl Tp)))] := hD
          refine lv_aload_n hx hb dX4_put_93 rfl (lv_at hl 1 rfl) ?_
          refine va_get (D := G) (ci := 4) (v := .ref qy4) (C := RX4) (T := TX4) (N := 11) hx hb hts hiX4 hown hK hP 0 rfl rfl 3 (by decide) hf19 (fun _ h9 => h9) rfl dX4_put_94 ?_
          refine lv_iload hx hb dX4_put_97 (lv_at hl 0 rfl) ?_
          refine lv_iload hx hb dX4_put_99 (lv_at hl 5 rfl) ?_
          refine va_iast hx hb hK hP hD hS 4 0 rfl rfl (vi_in rfl (by omega) (by omega)) dX4_put_101 (fun H locs hP hD hS => ?_)
          rw [cl_nat rfl (show r2.toInt = ((r2.toInt.toNat : Nat) : Int) by omega)] at hP hD
          have hP : va_P G vwCl [(qy, .inr (4, [.ref qy1, .ref qy2, .ref qy3, .ref qy4, .int zM, .ref qy5, .ref qy6, .int zH, .ref qy7, .int zT, .long bg])), (qy1, .inl (cI, 40, .inl (upd Mt r2.toInt.toNat p0))), (qy2, .inl (cI, 40, .inl (upd Ms r2.toInt.toNat p1))), (qy3, .inl (cI, 40, .inl (upd Mf r2.toInt.toNat p2))), (qy4, .inl (cI, 40, .inl (upd Ml r2.toInt.toNat p3))), (qy5, .inl (cI, 20, .inl Ht)), (qy6, .inl (cI, 20, .inl Hu)), (qy7, .inl (cL, 40, .inr (.inl Tp)))] H := hP
          have hD : va_D A [(qy, .inr (4, [.ref qy1, .ref qy2, .ref qy3, .ref qy4, .int zM, .ref qy5, .ref qy6, .int zH, .ref qy7, .int zT, .long bg])), (qy1, .inl (cI, 40, .inl (upd Mt r2.toInt.toNat p0))), (qy2, .inl (cI, 40, .inl (upd Ms r2.toInt.toNat p1))), (qy3, .inl (cI, 40, .inl (upd Mf r2.toInt.toNat p2))), (qy4, .inl (cI, 40, .inl (upd Ml r2.toInt.toNat p3))), (qy5, .inl (cI, 20, .inl Ht)), (qy6, .inl (cI, 20, .inl Hu)), (qy7, .inl (cL, 40, .inr (.inl Tp)))] := hD
          refine lv_aload_n hx hb dX4_put_102 rfl (lv_at hl 1 rfl) ?_
          refine va_get (D := G) (ci := 4) (v := .int zM) (C := RX4) (T := TX4) (N := 11) hx hb hts hiX4 hown hK hP 0 rfl rfl 4 (by decide) hf32 (fun _ h9 => h9) rfl dX4_put_103 ?_
          exact W.iret (v := zM) hx hb hr (fun t ht hW => ⟨⟨zM, (zM, upd Mt r2.toInt.toNat p0, upd Ms r2.toInt.toNat p1, upd Mf r2.toInt.toNat p2, upd Ml r2.toInt.toNat p3), rfl, (by (try dsimp only); exact (by first | exact ⟨nm, hnM, Or.inr ⟨ni, nb, Or.inl ⟨by omega, by omega, rfl, by rw [hw2], by rw [hw2], by rw [hw2], by rw [hw2]⟩⟩⟩ | exact ⟨nm + 1, by omega, Or.inr ⟨ni, nb, Or.inr (Or.inr ⟨by omega, by omega, by omega, rfl, by rw [show zM.toInt.toNat = nm by omega], by rw [show zM.toInt.toNat = nm by omega], by rw [show zM.toInt.toNat = nm by omega], by rw [show zM.toInt.toNat = nm by omega]⟩)⟩⟩ | exact absurd k32 (by omega) | exact absurd dd (by omega))), by rw [ht]; exact hP, hD⟩, hS.F ht⟩) hS.2.2 dX4_put_106
        · have k50 : (r2.toInt : Int) = (-1) := i_eq rfl (show ((-1 : Int32)).toInt = -1 by decide) c50
          have dd := k50
          refine lv_aload_n hx hb dX4_put_53 rfl (lv_at hl 1 rfl) ?_
          refine va_get (D := G) (ci := 4) (v := .int zM) (C := RX4) (T := TX4) (N := 11) hx hb hts hiX4 hown hK hP 0 rfl rfl 4 (by decide) hf32 (fun _ h9 => h9) rfl dX4_put_54 ?_
          refine lv_istore (lv' := [(5, .int zM), (0, .ref qy), (1, .int p0), (2, .int p1), (3, .int p2), (4, .int p3)]) hx hb dX4_put_57  hl (by decide) rfl (fun ls hl => ?_)
          refine lv_aload_n hx hb dX4_put_59 rfl (lv_at hl 1 rfl) ?_
          refine lv_dup hx hb dX4_put_60 rfl ?_
          refine va_get (D := G) (ci := 4) (v := .int zM) (C := RX4) (T := TX4) (N := 11) hx hb hts hiX4 hown hK hP 0 rfl rfl 4 (by decide) hf32 (fun _ h9 => h9) rfl dX4_put_61 ?_
          refine lv_iconst (v := 1) hx hb dX4_put_64 (by decide) ?_
          refine lv_iadd hx hb dX4_put_65 ?_
          refine lv_topi (fun x65 ex65 => ?_)
          have tx65 : x65.toInt = zM.toInt + 1 := by rw [ex65]; exact ti_add rfl (show ((1 : Int32)).toInt = 1 by decide) (by omega) (by omega)
          refine va_put (D := G) (ci := 4) (v := .int x65) (ty := .int) (C := RX4) (T := TX4) (N := 11) hx hb hts hiX4 tyX4 tyX4_ok nmX4 hown hK hP hD hS 0 rfl rfl 4 (by decide) hf32 (fun _ h9 => h9) rfl (by decide +kernel) rfl rfl (Nat.le_of_ble_eq_true rfl) dX4_put_66 (fun H locs hP hD hS => ?_)
          have hP : va_P G vwCl [(qy, .inr (4, [.ref qy1, .ref qy2, .ref qy3, .ref qy4, .int x65, .ref qy5, .ref qy6, .int zH, .ref qy7, .int zT, .long bg])), (qy1, .inl (cI, 40, .inl Mt)), (qy2, .inl (cI, 40, .inl Ms)), (qy3, .inl (cI, 40, .inl Mf)), (qy4, .inl (cI, 40, .inl Ml)), (qy5, .inl (cI, 20, .inl Ht)), (qy6, .inl (cI, 20, .inl Hu)), (qy7, .inl (cL, 40, .inr (.inl Tp)))] H := hP
          have hD : va_D A [(qy, .inr (4, [.ref qy1, .ref qy2, .ref qy3, .ref qy4, .int x65, .ref qy5, .ref qy6, .int zH, .ref qy7, .int zT, .long bg])), (qy1, .inl (cI, 40, .inl Mt)), (qy2, .inl (cI, 40, .inl Ms)), (qy3, .inl (cI, 40, .inl Mf)), (qy4, .inl (cI, 40, .inl Ml)), (qy5, .inl (cI, 20, .inl Ht)), (qy6, .inl (cI, 20, .inl Hu)), (qy7, .inl (cL, 40, .inr (.inl Tp)))] := hD
          refine lv_aload_n hx hb dX4_put_69 rfl (lv_at hl 1 rfl) ?_
          refine va_get (D := G) (ci := 4) (v := .ref qy1) (C := RX4) (T := TX4) (N := 11) hx hb hts hiX4 hown hK hP 0 rfl rfl 0 (by decide) hf7 (fun _ h9 => h9) rfl dX4_put_70 ?_
          refine lv_iload hx hb dX4_put_73 (lv_at hl 0 rfl) ?_
          refine lv_iload_n hx hb dX4_put_75 rfl (lv_at hl 2 rfl) ?_
          refine va_iast hx hb hK hP hD hS 1 0 rfl rfl (vi_in rfl (by omega) (by omega)) dX4_put_76 (fun H locs hP hD hS => ?_)
          rw [cl_nat rfl (show zM.toInt = ((zM.toInt.toNat : Nat) : Int) by omega)] at hP hD
          have hP : va_P G vwCl [(qy, .inr (4, [.ref qy1, .ref qy2, .ref qy3, .ref qy4, .int x65, .ref qy5, .ref qy6, .int zH, .ref qy7, .int zT, .long bg])), (qy1, .inl (cI, 40, .inl (upd Mt zM.toInt.toNat p0))), (qy2, .inl (cI, 40, .inl Ms)), (qy3, .inl (cI, 40, .inl Mf)), (qy4, .inl (cI, 40, .inl Ml)), (qy5, .inl (cI, 20, .inl Ht)), (qy6, .inl (cI, 20, .inl Hu)), (qy7, .inl (cL, 40, .inr (.inl Tp)))] H := hP
          have hD : va_D A [(qy, .inr (4, [.ref qy1, .ref qy2, .ref qy3, .ref qy4, .int x65, .ref qy5, .ref qy6, .int zH, .ref qy7, .int zT, .long bg])), (qy1, .inl (cI, 40, .inl (upd Mt zM.toInt.toNat p0))), (qy2, .inl (cI, 40, .inl Ms)), (qy3, .inl (cI, 40, .inl Mf)), (qy4, .inl (cI, 40, .inl Ml)), (qy5, .inl (cI, 20, .inl Ht)), (qy6, .inl (cI, 20, .inl Hu)), (qy7, .inl (cL, 40, .inr (.inl Tp)))] := hD
          refine lv_aload_n hx hb dX4_put_77 rfl (lv_at hl 1 rfl) ?_
          refine va_get (D := G) (ci := 4) (v := .ref qy2) (C := RX4) (T := TX4) (N := 11) hx hb hts hiX4 hown hK hP 0 rfl rfl 1 (by decide) hf13 (fun _ h9 => h9) rfl dX4_put_78 ?_
          refine lv_iload hx hb dX4_put_81 (lv_at hl 0 rfl) ?_
          refine lv_iload_n hx hb dX4_put_83 rfl (lv_at hl 3 rfl) ?_
          refine va_iast hx hb hK hP hD hS 2 0 rfl rfl (vi_in rfl (by omega) (by omega)) dX4_put_84 (fun H locs hP hD hS => ?_)
          rw [cl_nat rfl (show zM.toInt = ((zM.toInt.toNat : Nat) : Int) by omega)] at hP hD
          have hP : va_P G vwCl [(qy, .inr (4, [.ref qy1, .ref qy2, .ref qy3, .ref qy4, .int x65, .ref qy5, .ref qy6, .int zH, .ref qy7, .int zT, .long bg])), (qy1, .inl (cI, 40, .inl (upd Mt zM.toInt.toNat p0))), (qy2, .inl (cI, 40, .inl (upd Ms zM.toInt.toNat p1))), (qy3, .inl (cI, 40, .inl Mf)), (qy4, .inl (cI, 40, .inl Ml)), (qy5, .inl (cI, 20, .inl Ht)), (qy6, .inl (cI, 20, .inl Hu)), (qy7, .inl (cL, 40, .inr (.inl Tp)))] H := hP
          have hD : va_D A [(qy, .inr (4, [.ref qy1, .ref qy2, .ref qy3, .ref qy4, .int x65, .ref qy5, .ref qy6, .int zH, .ref qy7, .int zT, .long bg])), (qy1, .inl (cI, 40, .inl (upd Mt zM.toInt.toNat p0))), (qy2, .inl (cI, 40, .inl (upd Ms zM.toInt.toNat p1))), (qy3, .inl (cI, 40, .inl Mf)), (qy4, .inl (cI, 40, .inl Ml)), (qy5, .inl (cI, 20, .inl Ht)), (qy6, .inl (cI, 20, .inl Hu)), (qy7, .inl (cL, 40, .inr (.inl Tp)))] := hD
          refine lv_aload_n hx hb dX4_put_85 rfl (lv_at hl 1 rfl) ?_
          refine va_get (D := G) (ci := 4) (v := .ref qy3) (C := RX4) (T := TX4) (N := 11) hx hb hts hiX4 hown hK hP 0 rfl rfl 2 (by decide) hf16 (fun _ h9 => h9) rfl dX4_put_86 ?_
          refine lv_iload hx hb dX4_put_89 (lv_at hl 0 rfl) ?_
          refine lv_iload_n hx hb dX4_put_91 rfl (lv_at hl 4 rfl) ?_
          refine va_iast hx hb hK hP hD hS 3 0 rfl rfl (vi_in rfl (by omega) (by omega)) dX4_put_92 (fun H locs hP hD hS => ?_)
          rw [cl_nat rfl (show zM.toInt = ((zM.toInt.toNat : Nat) : Int) by omega)] at hP hD
          have hP : va_P G vwCl [(qy, .inr (4, [.ref qy1, .ref qy2, .ref qy3, .ref qy4, .int x65, .ref qy5, .ref qy6, .int zH, .ref qy7, .int zT, .long bg])), (qy1, .inl (cI, 40, .inl (upd Mt zM.toInt.toNat p0))), (qy2, .inl (cI, 40, .inl (upd Ms zM.toInt.toNat p1))), (qy3, .inl (cI, 40, .inl (upd Mf zM.toInt.toNat p2))), (qy4, .inl (cI, 40, .inl Ml)), (qy5, .inl (cI, 20, .inl Ht)), (qy6, .inl (cI, 20, .inl Hu)), (qy7, .inl (cL, 40, .inr (.inl Tp)))] H := hP
          have hD : va_D A [(qy, .inr (4, [.ref qy1, .ref qy2, .ref qy3, .ref qy4, .int x65, .ref qy5, .ref qy6, .int zH, .ref qy7, .int zT, .long bg])), (qy1, .inl (cI, 40, .inl (upd Mt zM.toInt.toNat p0))), (qy2, .inl (cI, 40, .inl (upd Ms zM.toInt.toNat p1))), (qy3, .inl (cI, 40, .inl (upd Mf zM.toInt.toNat p2))), (qy4, .inl (cI, 40, .inl Ml)), (qy5, .inl (cI, 20, .inl Ht)), (qy6, .inl (cI, 20, .inl Hu)), (qy7, .inl (cL, 40, .inr (.inl Tp)))] := hD
          refine lv_aload_n hx hb dX4_put_93 rfl (lv_at hl 1 rfl) ?_
          refine va_get (D := G) (ci := 4) (v := .ref qy4) (C := RX4) (T := TX4) (N := 11) hx hb hts hiX4 hown hK hP 0 rfl rfl 3 (by decide) hf19 (fun _ h9 => h9) rfl dX4_put_94 ?_
          refine lv_iload hx hb dX4_put_97 (lv_at hl 0 rfl) ?_
          refine lv_iload hx hb dX4_put_99 (lv_at hl 5 rfl) ?_
          refine va_iast hx hb hK hP hD hS 4 0 rfl rfl (vi_in rfl (by omega) (by omega)) dX4_put_101 (fun H locs hP hD hS => ?_)
          rw [cl_nat rfl (show zM.toInt = ((zM.toInt.toNat : Nat) : Int) by omega)] at hP hD
          have hP : va_P G vwCl [(qy, .inr (4, [.ref qy1, .ref qy2, .ref qy3, .ref qy4, .int x65, .ref qy5, .ref qy6, .int zH, .ref qy7, .int zT, .long bg])), (qy1, .inl (cI, 40, .inl (upd Mt zM.toInt.toNat p0))), (qy2, .inl (cI, 40, .inl (upd Ms zM.toInt.toNat p1))), (qy3, .inl (cI, 40, .inl (upd Mf zM.toInt.toNat p2))), (qy4, .inl (cI, 40, .inl (upd Ml zM.toInt.toNat p3))), (qy5, .inl (cI, 20, .inl Ht)), (qy6, .inl (cI, 20, .inl Hu)), (qy7, .inl (cL, 40, .inr (.inl Tp)))] H := hP
          have hD : va_D A [(qy, .inr (4, [.ref qy1, .ref qy2, .ref qy3, .ref qy4, .int x65, .ref qy5, .ref qy6, .int zH, .ref qy7, .int zT, .long bg])), (qy1, .inl (cI, 40, .inl (upd Mt zM.toInt.toNat p0))), (qy2, .inl (cI, 40, .inl (upd Ms zM.toInt.toNat p1))), (qy3, .inl (cI, 40, .inl (upd Mf zM.toInt.toNat p2))), (qy4, .inl (cI, 40, .inl (upd Ml zM.toInt.toNat p3))), (qy5, .inl (cI, 20, .inl Ht)), (qy6, .inl (cI, 20, .inl Hu)), (qy7, .inl (cL, 40, .inr (.inl Tp)))] := hD
          refine lv_aload_n hx hb dX4_put_102 rfl (lv_at hl 1 rfl) ?_
          refine va_get (D := G) (ci := 4) (v := .int x65) (C := RX4) (T := TX4) (N := 11) hx hb hts hiX4 hown hK hP 0 rfl rfl 4 (by decide) hf32 (fun _ h9 => h9) rfl dX4_put_103 ?_
          exact W.iret (v := x65) hx hb hr (fun t ht hW => ⟨⟨x65, (x65, upd Mt zM.toInt.toNat p0, upd Ms zM.toInt.toNat p1, upd Mf zM.toInt.toNat p2, upd Ml zM.toInt.toNat p3), rfl, (by (try dsimp only); exact (by first | exact ⟨nm, hnM, Or.inr ⟨ni, nb, Or.inl ⟨by omega, by omega, rfl, by rw [hw2], by rw [hw2], by rw [hw2], by rw [hw2]⟩⟩⟩ | exact ⟨nm + 1, by omega, Or.inr ⟨ni, nb, Or.inr (Or.inr ⟨by omega, by omega, by omega, rfl, by rw [show zM.toInt.toNat = nm by omega], by rw [show zM.toInt.toNat = nm by omega], by rw [show zM.toInt.toNat = nm by omega], by rw [show zM.toInt.toNat = nm by omega]⟩)⟩⟩ | exact absurd k32 (by omega) | exact absurd dd (by omega))), by rw [ht]; exact hP, hD⟩, hS.F ht⟩) hS.2.2 dX4_put_106
      · have k32 : (r2.toInt : Int) = (-1) := i_eq rfl (show ((-1 : Int32)).toInt = -1 by decide) c32
        refine lv_aload_n hx hb dX4_put_35 rfl (lv_at hl 1 rfl) ?_
        refine va_get (D := G) (ci := 4) (v := .int zM) (C := RX4) (T := TX4) (N := 11) hx hb hts hiX4 hown hK hP 0 rfl rfl 4 (by decide) hf32 (fun _ h9 => h9) rfl dX4_put_36 ?_
        refine lv_bipush (v := 40) hx hb dX4_put_39 (by decide) ?_
        refine lv_icmp_ne (tgt := 47) hx hb dX4_put_41 (by decide) (fun c41 => ?_) (fun c41 => ?_)
        · have k41 : (zM.toInt : Int) ≠ 40 := i_ne rfl (show ((40 : Int32)).toInt = 40 by decide) c41
          refine lv_iload hx hb dX4_put_47 (lv_at hl 0 rfl) ?_
          refine lv_iconst (v := (-1)) hx hb dX4_put_49 (by decide) ?_
          refine lv_icmp_ne (tgt := 69) hx hb dX4_put_50 (by decide) (fun c50 => ?_) (fun c50 => ?_)
          · have k50 : (r2.toInt : Int) ≠ (-1) := i_ne rfl (show ((-1 : Int32)).toInt = -1 by decide) c50
            have dd := k50
            refine lv_aload_n hx hb dX4_put_69 rfl (lv_at hl 1 rfl) ?_
            refine va_get (D := G) (ci := 4) (v := .ref qy1) (C := RX4) (T := TX4) (N := 11) hx hb hts hiX4 hown hK hP 0 rfl rfl 0 (by decide) hf7 (fun _ h9 => h9) rfl dX4_put_70 ?_
            refine lv_iload hx hb dX4_put_73 (lv_at hl 0 rfl) ?_
            refine lv_iload_n hx hb dX4_put_75 rfl (lv_at hl 2 rfl) ?_
            refine va_iast hx hb hK hP hD hS 1 0 rfl rfl (vi_in rfl (by omega) (by omega)) dX4_put_76 (fun H locs hP hD hS => ?_)
            rw [cl_nat rfl (show r2.toInt = ((r2.toInt.toNat : Nat) : Int) by omega)] at hP hD
            have hP : va_P G vwCl [(qy, .inr (4, [.ref qy1, .ref qy2, .ref qy3, .ref qy4, .int zM, .ref qy5, .ref qy6, .int zH, .ref qy7, .int zT, .long bg])), (qy1, .inl (cI, 40, .inl (upd Mt r2.toInt.toNat p0))), (qy2, .inl (cI, 40, .inl Ms)), (qy3, .inl (cI, 40, .inl Mf)), (qy4, .inl (cI, 40, .inl Ml)), (qy5, .inl (cI, 20, .inl Ht)), (qy6, .inl (cI, 20, .inl Hu)), (qy7, .inl (cL, 40, .inr (.inl Tp)))] H := hP
            have hD : va_D A [(qy, .inr (4, [.ref qy1, .ref qy2, .ref qy3, .ref qy4, .int zM, .ref qy5, .ref qy6, .int zH, .ref qy7, .int zT, .long bg])), (qy1, .inl (cI, 40, .inl (upd Mt r2.toInt.toNat p0))), (qy2, .inl (cI, 40, .inl Ms)), (qy3, .inl (cI, 40, .inl Mf)), (qy4, .inl (cI, 40, .inl Ml)), (qy5, .inl (cI, 20, .inl Ht)), (qy6, .inl (cI, 20, .inl Hu)), (qy7, .inl (cL, 40, .inr (.inl Tp)))] := hD
            refine lv_aload_n hx hb dX4_put_77 rfl (lv_at hl 1 rfl) ?_
            refine va_get (D := G) (ci := 4) (v := .ref qy2) (C := RX4) (T := TX4) (N := 11) hx hb hts hiX4 hown hK hP 0 rfl rfl 1 (by decide) hf13 (fun _ h9 => h9) rfl dX4_put_78 ?_
            refine lv_iload hx hb dX4_put_81 (lv_at hl 0 rfl) ?_
            refine lv_iload_n hx hb dX4_put_83 rfl (lv_at hl 3 rfl) ?_
            refine va_iast hx hb hK hP hD hS 2 0 rfl rfl (vi_in rfl (by omega) (by omega)) dX4_put_84 (fun H locs hP hD hS => ?_)
            rw [cl_nat rfl (show r2.toInt = ((r2.toInt.toNat : Nat) : Int) by omega)] at hP hD
            have hP : va_P G vwCl [(qy, .inr (4, [.ref qy1, .ref qy2, .ref qy3, .ref qy4, .int zM, .ref qy5, .ref qy6, .int zH, .ref qy7, .int zT, .long bg])), (qy1, .inl (cI, 40, .inl (upd Mt r2.toInt.toNat p0))), (qy2, .inl (cI, 40, .inl (upd Ms r2.toInt.toNat p1))), (qy3, .inl (cI, 40, .inl Mf)), (qy4, .inl (cI, 40, .inl Ml)), (qy5, .inl (cI, 20, .inl Ht)), (qy6, .inl (cI, 20, .inl Hu)), (qy7, .inl (cL, 40, .inr (.inl Tp)))] H := hP
            have hD : va_D A [(qy, .inr (4, [.ref qy1, .ref qy2, .ref qy3, .ref qy4, .int zM, .ref qy5, .ref qy6, .int zH, .ref qy7, .int zT, .long bg])), (qy1, .inl (cI, 40, .inl (upd Mt r2.toInt.toNat p0))), (qy2, .inl (cI, 40, .inl (upd Ms r2.toInt.toNat p1))), (qy3, .inl (cI, 40, .inl Mf)), (qy4, .inl (cI, 40, .inl Ml)), (qy5, .inl (cI, 20, .inl Ht)), (qy6, .inl (cI, 20, .inl Hu)), (qy7, .inl (cL, 40, .inr (.inl Tp)))] := hD
            refine lv_aload_n hx hb dX4_put_85 rfl (lv_at hl 1 rfl) ?_
            refine va_get (D := G) (ci := 4) (v := .ref qy3) (C := RX4) (T := TX4) (N := 11) hx hb hts hiX4 hown hK hP 0 rfl rfl 2 (by decide) hf16 (fun _ h9 => h9) rfl dX4_put_86 ?_
            refine lv_iload hx hb dX4_put_89 (lv_at hl 0 rfl) ?_
            refine lv_iload_n hx hb dX4_put_91 rfl (lv_at hl 4 rfl) ?_
            refine va_iast hx hb hK hP hD hS 3 0 rfl rfl (vi_in rfl (by omega) (by omega)) dX4_put_92 (fun H locs hP hD hS => ?_)
            rw [cl_nat rfl (show r2.toInt = ((r2.toInt.toNat : Nat) : Int) by omega)] at hP hD
            have hP : va_P G vwCl [(qy, .inr (4, [.ref qy1, .ref qy2, .ref qy3, .ref qy4, .int zM, .ref qy5, .ref qy6, .int zH, .ref qy7, .int zT, .long bg])), (qy1, .inl (cI, 40, .inl (upd Mt r2.toInt.toNat p0))), (qy2, .inl (cI, 40, .inl (upd Ms r2.toInt.toNat p1))), (qy3, .inl (cI, 40, .inl (upd Mf r2.toInt.toNat p2))), (qy4, .inl (cI, 40, .inl Ml)), (qy5, .inl (cI, 20, .inl Ht)), (qy6, .inl (cI, 20, .inl Hu)), (qy7, .inl (cL, 40, .inr (.inl Tp)))] H := hP
            have hD : va_D A [(qy, .inr (4, [.ref qy1, .ref qy2, .ref qy3, .ref qy4, .int zM, .ref qy5, .ref qy6, .int zH, .ref qy7, .int zT, .long bg])), (qy1, .inl (cI, 40, .inl (upd Mt r2.toInt.toNat p0))), (qy2, .inl (cI, 40, .inl (upd Ms r2.toInt.toNat p1))), (qy3, .inl (cI, 40, .inl (upd Mf r2.toInt.toNat p2))), (qy4, .inl (cI, 40, .inl Ml)), (qy5, .inl (cI, 20, .inl Ht)), (qy6, .inl (cI, 20, .inl Hu)), (qy7, .inl (cL, 40, .inr (.inl Tp)))] := hD
            refine lv_aload_n hx hb dX4_put_93 rfl (lv_at hl 1 rfl) ?_
            refine va_get (D := G) (ci := 4) (v := .ref qy4) (C := RX4) (T := TX4) (N := 11) hx hb hts hiX4 hown hK hP 0 rfl rfl 3 (by decide) hf19 (fun _ h9 => h9) rfl dX4_put_94 ?_
            refine lv_iload hx hb dX4_put_97 (lv_at hl 0 rfl) ?_
            refine lv_iload hx hb dX4_put_99 (lv_at hl 5 rfl) ?_
            refine va_iast hx hb hK hP hD hS 4 0 rfl rfl (vi_in rfl (by omega) (by omega)) dX4_put_101 (fun H locs hP hD hS => ?_)
            rw [cl_nat rfl (show r2.toInt = ((r2.toInt.toNat : Nat) : Int) by omega)] at hP hD
            have hP : va_P G vwCl [(qy, .inr (4, [.ref qy1, .ref qy2, .ref qy3, .ref qy4, .int zM, .ref qy5, .ref qy6, .int zH, .ref qy7, .int zT, .long bg])), (qy1, .inl (cI, 40, .inl (upd Mt r2.toInt.toNat p0))), (qy2, .inl (cI, 40, .inl (upd Ms r2.toInt.toNat p1))), (qy3, .inl (cI, 40, .inl (upd Mf r2.toInt.toNat p2))), (qy4, .inl (cI, 40, .inl (upd Ml r2.toInt.toNat p3))), (qy5, .inl (cI, 20, .inl Ht)), (qy6, .inl (cI, 20, .inl Hu)), (qy7, .inl (cL, 40, .inr (.inl Tp)))] H := hP
            have hD : va_D A [(qy, .inr (4, [.ref qy1, .ref qy2, .ref qy3, .ref qy4, .int zM, .ref qy5, .ref qy6, .int zH, .ref qy7, .int zT, .long bg])), (qy1, .inl (cI, 40, .inl (upd Mt r2.toInt.toNat p0))), (qy2, .inl (cI, 40, .inl (upd Ms r2.toInt.toNat p1))), (qy3, .inl (cI, 40, .inl (upd Mf r2.toInt.toNat p2))), (qy4, .inl (cI, 40, .inl (upd Ml r2.toInt.toNat p3))), (qy5, .inl (cI, 20, .inl Ht)), (qy6, .inl (cI, 20, .inl Hu)), (qy7, .inl (cL, 40, .inr (.inl Tp)))] := hD
            refine lv_aload_n hx hb dX4_put_102 rfl (lv_at hl 1 rfl) ?_
            refine va_get (D := G) (ci := 4) (v := .int zM) (C := RX4) (T := TX4) (N := 11) hx hb hts hiX4 hown hK hP 0 rfl rfl 4 (by decide) hf32 (fun _ h9 => h9) rfl dX4_put_103 ?_
            exact W.iret (v := zM) hx hb hr (fun t ht hW => ⟨⟨zM, (zM, upd Mt r2.toInt.toNat p0, upd Ms r2.toInt.toNat p1, upd Mf r2.toInt.toNat p2, upd Ml r2.toInt.toNat p3), rfl, (by (try dsimp only); exact (by first | exact ⟨nm, hnM, Or.inr ⟨ni, nb, Or.inl ⟨by omega, by omega, rfl, by rw [hw2], by rw [hw2], by rw [hw2], by rw [hw2]⟩⟩⟩ | exact ⟨nm + 1, by omega, Or.inr ⟨ni, nb, Or.inr (Or.inr ⟨by omega, by omega, by omega, rfl, by rw [show zM.toInt.toNat = nm by omega], by rw [show zM.toInt.toNat = nm by omega], by rw [show zM.toInt.toNat = nm by omega], by rw [show zM.toInt.toNat = nm by omega]⟩)⟩⟩ | exact absurd k32 (by omega) | exact absurd dd (by omega))), by rw [ht]; exact hP, hD⟩, hS.F ht⟩) hS.2.2 dX4_put_106
          · have k50 : (r2.toInt : Int) = (-1) := i_eq rfl (show ((-1 : Int32)).toInt = -1 by decide) c50
            have dd := k50
            refine lv_aload_n hx hb dX4_put_53 rfl (lv_at hl 1 rfl) ?_
            refine va_get (D := G) (ci := 4) (v := .int zM) (C := RX4) (T := TX4) (N := 11) hx hb hts hiX4 hown hK hP 0 rfl rfl 4 (by decide) hf32 (fun _ h9 => h9) rfl dX4_put_54 ?_
            refine lv_istore (lv' := [(5, .int zM), (0, .ref qy), (1, .int p0), (2, .int p1), (3, .int p2), (4, .int p3)]) hx hb dX4_put_57  hl (by decide) rfl (fun ls hl => ?_)
            refine lv_aload_n hx hb dX4_put_59 rfl (lv_at hl 1 rfl) ?_
            refine lv_dup hx hb dX4_put_60 rfl ?_
            refine va_get (D := G) (ci := 4) (v := .int zM) (C := RX4) (T := TX4) (N := 11) hx hb hts hiX4 hown hK hP 0 rfl rfl 4 (by decide) hf32 (fun _ h9 => h9) rfl dX4_put_61 ?_
            refine lv_iconst (v := 1) hx hb dX4_put_64 (by decide) ?_
            refine lv_iadd hx hb dX4_put_65 ?_
            refine lv_topi (fun x65_2 ex65_2 => ?_)
            have tx65_2 : x65_2.toInt = zM.toInt + 1 := by rw [ex65_2]; exact ti_add rfl (show ((1 : Int32)).toInt = 1 by decide) (by omega) (by omega)
            refine va_put (D := G) (ci := 4) (v := .int x65_2) (ty := .int) (C := RX4) (T := TX4) (N := 11) hx hb hts hiX4 tyX4 tyX4_ok nmX4 hown hK hP hD hS 0 rfl rfl 4 (by decide) hf32 (fun _ h9 => h9) rfl (by decide +kernel) rfl rfl (Nat.le_of_ble_eq_true rfl) dX4_put_66 (fun H locs hP hD hS => ?_)
            have hP : va_P G vwCl [(qy, .inr (4, [.ref qy1, .ref qy2, .ref qy3, .ref qy4, .int x65_2, .ref qy5, .ref qy6, .int zH, .ref qy7, .int zT, .long bg])), (qy1, .inl (cI, 40, .inl Mt)), (qy2, .inl (cI, 40, .inl Ms)), (qy3, .inl (cI, 40, .inl Mf)), (qy4, .inl (cI, 40, .inl Ml)), (qy5, .inl (cI, 20, .inl Ht)), (qy6, .inl (cI, 20, .inl Hu)), (qy7, .inl (cL, 40, .inr (.inl Tp)))] H := hP
            have hD : va_D A [(qy, .inr (4, [.ref qy1, .ref qy2, .ref qy3, .ref qy4, .int x65_2, .ref qy5, .ref qy6, .int zH, .ref qy7, .int zT, .long bg])), (qy1, .inl (cI, 40, .inl Mt)), (qy2, .inl (cI, 40, .inl Ms)), (qy3, .inl (cI, 40, .inl Mf)), (qy4, .inl (cI, 40, .inl Ml)), (qy5, .inl (cI, 20, .inl Ht)), (qy6, .inl (cI, 20, .inl Hu)), (qy7, .inl (cL, 40, .inr (.inl Tp)))] := hD
            refine lv_aload_n hx hb dX4_put_69 rfl (lv_at hl 1 rfl) ?_
            refine va_get (D := G) (ci := 4) (v := .ref qy1) (C := RX4) (T := TX4) (N := 11) hx hb hts hiX4 hown hK hP 0 rfl rfl 0 (by decide) hf7 (fun _ h9 => h9) rfl dX4_put_70 ?_
            refine lv_iload hx hb dX4_put_73 (lv_at hl 0 rfl) ?_
            refine lv_iload_n hx hb dX4_put_75 rfl (lv_at hl 2 rfl) ?_
            refine va_iast hx hb hK hP hD hS 1 0 rfl rfl (vi_in rfl (by omega) (by omega)) dX4_put_76 (fun H locs hP hD hS => ?_)
            rw [cl_nat rfl (show zM.toInt = ((zM.toInt.toNat : Nat) : Int) by omega)] at hP hD
            have hP : va_P G vwCl [(qy, .inr (4, [.ref qy1, .ref qy2, .ref qy3, .ref qy4, .int x65_2, .ref qy5, .ref qy6, .int zH, .ref qy7, .int zT, .long bg])), (qy1, .inl (cI, 40, .inl (upd Mt zM.toInt.toNat p0))), (qy2, .inl (cI, 40, .inl Ms)), (qy3, .inl (cI, 40, .inl Mf)), (qy4, .inl (cI, 40, .inl Ml)), (qy5, .inl (cI, 20, .inl Ht)), (qy6, .inl (cI, 20, .inl Hu)), (qy7, .inl (cL, 40, .inr (.inl Tp)))] H := hP
            have hD : va_D A [(qy, .inr (4, [.ref qy1, .ref qy2, .ref qy3, .ref qy4, .int x65_2, .ref qy5, .ref qy6, .int zH, .ref qy7, .int zT, .long bg])), (qy1, .inl (cI, 40, .inl (upd Mt zM.toInt.toNat p0))), (qy2, .inl (cI, 40, .inl Ms)), (qy3, .inl (cI, 40, .inl Mf)), (qy4, .inl (cI, 40, .inl Ml)), (qy5, .inl (cI, 20, .inl Ht)), (qy6, .inl (cI, 20, .inl Hu)), (qy7, .inl (cL, 40, .inr (.inl Tp)))] := hD
            refine lv_aload_n hx hb dX4_put_77 rfl (lv_at hl 1 rfl) ?_
            refine va_get (D := G) (ci := 4) (v := .ref qy2) (C := RX4) (T := TX4) (N := 11) hx hb hts hiX4 hown hK hP 0 rfl rfl 1 (by decide) hf13 (fun _ h9 => h9) rfl dX4_put_78 ?_
            refine lv_iload hx hb dX4_put_81 (lv_at hl 0 rfl) ?_
            refine lv_iload_n hx hb dX4_put_83 rfl (lv_at hl 3 rfl) ?_
            refine va_iast hx hb hK hP hD hS 2 0 rfl rfl (vi_in rfl (by omega) (by omega)) dX4_put_84 (fun H locs hP hD hS => ?_)
            rw [cl_nat rfl (show zM.toInt = ((zM.toInt.toNat : Nat) : Int) by omega)] at hP hD
            have hP : va_P G vwCl [(qy, .inr (4, [.ref qy1, .ref qy2, .ref qy3, .ref qy4, .int x65_2, .ref qy5, .ref qy6, .int zH, .ref qy7, .int zT, .long bg])), (qy1, .inl (cI, 40, .inl (upd Mt zM.toInt.toNat p0))), (qy2, .inl (cI, 40, .inl (upd Ms zM.toInt.toNat p1))), (qy3, .inl (cI, 40, .inl Mf)), (qy4, .inl (cI, 40, .inl Ml)), (qy5, .inl (cI, 20, .inl Ht)), (qy6, .inl (cI, 20, .inl Hu)), (qy7, .inl (cL, 40, .inr (.inl Tp)))] H := hP
            have hD : va_D A [(qy, .inr (4, [.ref qy1, .ref qy2, .ref qy3, .ref qy4, .int x65_2, .ref qy5, .ref qy6, .int zH, .ref qy7, .int zT, .long bg])), (qy1, .inl (cI, 40, .inl (upd Mt zM.toInt.toNat p0))), (qy2, .inl (cI, 40, .inl (upd Ms zM.toInt.toNat p1))), (qy3, .inl (cI, 40, .inl Mf)), (qy4, .inl (cI, 40, .inl Ml)), (qy5, .inl (cI, 20, .inl Ht)), (qy6, .inl (cI, 20, .inl Hu)), (qy7, .inl (cL, 40, .inr (.inl Tp)))] := hD
            refine lv_aload_n hx hb dX4_put_85 rfl (lv_at hl 1 rfl) ?_
            refine va_get (D := G) (ci := 4) (v := .ref qy3) (C := RX4) (T := TX4) (N := 11) hx hb hts hiX4 hown hK hP 0 rfl rfl 2 (by decide) hf16 (fun _ h9 => h9) rfl dX4_put_86 ?_
            refine lv_iload hx hb dX4_put_89 (lv_at hl 0 rfl) ?_
            refine lv_iload_n hx hb dX4_put_91 rfl (lv_at hl 4 rfl) ?_
            refine va_iast hx hb hK hP hD hS 3 0 rfl rfl (vi_in rfl (by omega) (by omega)) dX4_put_92 (fun H locs hP hD hS => ?_)
            rw [cl_nat rfl (show zM.toInt = ((zM.toInt.toNat : Nat) : Int) by omega)] at hP hD
            have hP : va_P G vwCl [(qy, .inr (4, [.ref qy1, .ref qy2, .ref qy3, .ref qy4, .int x65_2, .ref qy5, .ref qy6, .int zH, .ref qy7, .int zT, .long bg])), (qy1, .inl (cI, 40, .inl (upd Mt zM.toInt.toNat p0))), (qy2, .inl (cI, 40, .inl (upd Ms zM.toInt.toNat p1))), (qy3, .inl (cI, 40, .inl (upd Mf zM.toInt.toNat p2))), (qy4, .inl (cI, 40, .inl Ml)), (qy5, .inl (cI, 20, .inl Ht)), (qy6, .inl (cI, 20, .inl Hu)), (qy7, .inl (cL, 40, .inr (.inl Tp)))] H := hP
            have hD : va_D A [(qy, .inr (4, [.ref qy1, .ref qy2, .ref qy3, .ref qy4, .int x65_2, .ref qy5, .ref qy6, .int zH, .ref qy7, .int zT, .long bg])), (qy1, .inl (cI, 40, .inl (upd Mt zM.toInt.toNat p0))), (qy2, .inl (cI, 40, .inl (upd Ms zM.toInt.toNat p1))), (qy3, .inl (cI, 40, .inl (upd Mf zM.toInt.toNat p2))), (qy4, .inl (cI, 40, .inl Ml)), (qy5, .inl (cI, 20, .inl Ht)), (qy6, .inl (cI, 20, .inl Hu)), (qy7, .inl (cL, 40, .inr (.inl Tp)))] := hD
            refine lv_aload_n hx hb dX4_put_93 rfl (lv_at hl 1 rfl) ?_
            refine va_get (D := G) (ci := 4) (v := .ref qy4) (C := RX4) (T := TX4) (N := 11) hx hb hts hiX4 hown hK hP 0 rfl rfl 3 (by decide) hf19 (fun _ h9 => h9) rfl dX4_put_94 ?_
            refine lv_iload hx hb dX4_put_97 (lv_at hl 0 rfl) ?_
            refine lv_iload hx hb dX4_put_99 (lv_at hl 5 rfl) ?_
            refine va_iast hx hb hK hP hD hS 4 0 rfl rfl (vi_in rfl (by omega) (by omega)) dX4_put_101 (fun H locs hP hD hS => ?_)
            rw [cl_nat rfl (show zM.toInt = ((zM.toInt.toNat : Nat) : Int) by omega)] at hP hD
            have hP : va_P G vwCl [(qy, .inr (4, [.ref qy1, .ref qy2, .ref qy3, .ref qy4, .int x65_2, .ref qy5, .ref qy6, .int zH, .ref qy7, .int zT, .long bg])), (qy1, .inl (cI, 40, .inl (upd Mt zM.toInt.toNat p0))), (qy2, .inl (cI, 40, .inl (upd Ms zM.toInt.toNat p1))), (qy3, .inl (cI, 40, .inl (upd Mf zM.toInt.toNat p2))), (qy4, .inl (cI, 40, .inl (upd Ml zM.toInt.toNat p3))), (qy5, .inl (cI, 20, .inl Ht)), (qy6, .inl (cI, 20, .inl Hu)), (qy7, .inl (cL, 40, .inr (.inl Tp)))] H := hP
            have hD : va_D A [(qy, .inr (4, [.ref qy1, .ref qy2, .ref qy3, .ref qy4, .int x65_2, .ref qy5, .ref qy6, .int zH, .ref qy7, .int zT, .long bg])), (qy1, .inl (cI, 40, .inl (upd Mt zM.toInt.toNat p0))), (qy2, .inl (cI, 40, .inl (upd Ms zM.toInt.toNat p1))), (qy3, .inl (cI, 40, .inl (upd Mf zM.toInt.toNat p2))), (qy4, .inl (cI, 40, .inl (upd Ml zM.toInt.toNat p3))), (qy5, .inl (cI, 20, .inl Ht)), (qy6, .inl (cI, 20, .inl Hu)), (qy7, .inl (cL, 40, .inr (.inl Tp)))] := hD
            refine lv_aload_n hx hb dX4_put_102 rfl (lv_at hl 1 rfl) ?_
            refine va_get (D := G) (ci := 4) (v := .int x65_2) (C := RX4) (T := TX4) (N := 11) hx hb hts hiX4 hown hK hP 0 rfl rfl 4 (by decide) hf32 (fun _ h9 => h9) rfl dX4_put_103 ?_
            exact W.iret (v := x65_2) hx hb hr (fun t ht hW => ⟨⟨x65_2, (x65_2, upd Mt zM.toInt.toNat p0, upd Ms zM.toInt.toNat p1, upd Mf zM.toInt.toNat p2, upd Ml zM.toInt.toNat p3), rfl, (by (try dsimp only); exact (by first | exact ⟨nm, hnM, Or.inr ⟨ni, nb, Or.inl ⟨by omega, by omega, rfl, by rw [hw2], by rw [hw2], by rw [hw2], by rw [hw2]⟩⟩⟩ | exact ⟨nm + 1, by omega, Or.inr ⟨ni, nb, Or.inr (Or.inr ⟨by omega, by omega, by omega, rfl, by rw [show zM.toInt.toNat = nm by omega], by rw [show zM.toInt.toNat = nm by omega], by rw [show zM.toInt.toNat = nm by omega], by rw [show zM.toInt.toNat = nm by omega]⟩)⟩⟩ | exact absurd k32 (by omega) | exact absurd dd (by omega))), by rw [ht]; exact hP, hD⟩, hS.F ht⟩) hS.2.2 dX4_put_106
        · have k41 : (zM.toInt : Int) = 40 := i_eq rfl (show ((40 : Int32)).toInt = 40 by decide) c41
          refine lv_bipush (v := (-4)) hx hb dX4_put_44 (by decide) ?_
          exact W.iret (v := (-4)) hx hb hr (fun t ht hW => ⟨⟨(-4), (zM, Mt, Ms, Mf, Ml), rfl, (by (try dsimp only); exact ⟨nm, hnM, Or.inr ⟨ni, nb, Or.inr (Or.inl ⟨by omega, by omega, by omega, rfl, rfl, rfl, rfl, rfl⟩)⟩⟩), by rw [ht]; exact hP, hD⟩, hS.F ht⟩) hS.2.2 dX4_put_46
    · have k23 : (r20.toInt : Int) ≠ 0 := i_ne rfl (show ((0 : Int32)).toInt = 0 by decide) c23
      have ii : insS nm Mt Ms p0.toInt ∨ btw nm Mt p0.toInt (p0.toInt + p1.toInt) := by rcases hw20 with h | h; exact Or.inr h.2; omega
      refine lv_bipush (v := (-3)) hx hb dX4_put_26 (by decide) ?_
      exact W.iret (v := (-3)) hx hb hr (fun t ht hW => ⟨⟨(-3), (zM, Mt, Ms, Mf, Ml), rfl, (by (try dsimp only); exact ⟨nm, hnM, Or.inl ⟨ii, by omega, rfl, rfl, rfl, rfl, rfl⟩⟩), by rw [ht]; exact hP, hD⟩, hS.F ht⟩) hS.2.2 dX4_put_28

set_option maxHeartbeats 1000000 in
set_option maxRecDepth 100000 in
theorem ct_X4_held (l : Launch) (G : va_G) (cI cL : ClassId) (sz : Nat) (qy : Nat) (qy1 : Nat) (qy2 : Nat) (qy3 : Nat) (qy4 : Nat) (qy5 : Nat) (qy6 : Nat) (qy7 : Nat) (zM : Int32) (zH : Int32) (zT : Int32) (bg : Int64) (Mt : Nat → Int32) (Ms : Nat → Int32) (Mf : Nat → Int32) (Ml : Nat → Int32) (Ht : Nat → Int32) (Hu : Nat → Int32) (Tp : Nat → Int64) (p0 : Int64) (nm : Nat) (hnM : zM.toInt = nm) (hOM : okM nm Mt Ms Mf Ml) (nh : Nat) (hnH : zH.toInt = nh) (hOH : okH nh Ht Hu) (nt : Nat) (hnT : zT.toInt = nt) (hOT : okT nt Tp) : Met l yX4_held wsX4_held ({ frames := 3, cells := 0, slots := 0, locals := 82 }) (va_Pc [.ref qy, .long p0] (pre0 G cI cL [(qy, .inr (4, [.ref qy1, .ref qy2, .ref qy3, .ref qy4, .int zM, .ref qy5, .ref qy6, .int zH, .ref qy7, .int zT, .long bg])), (qy1, .inl (cI, 40, .inl Mt)), (qy2, .inl (cI, 40, .inl Ms)), (qy3, .inl (cI, 40, .inl Mf)), (qy4, .inl (cI, 40, .inl Ml)), (qy5, .inl (cI, 20, .inl Ht)), (qy6, .inl (cI, 20, .inl Hu)), (qy7, .inl (cL, 40, .inr (.inl Tp)))] sz)) (va_Qi (fun (r : Int32) (u : Int64) => (p0.toInt < 0 ∧ r.toInt = -2) ∨ (0 ≤ p0.toInt ∧ ∃ t9 : Int, lastB (Bg (paceF Mt Ms Mf Ml nm) Ht Hu nh) p0.toInt t9 ∧ (((t9 = -1 ∨ t9 = 1000000 ∨ Bg (paceF Mt Ms Mf Ml nm) Ht Hu nh t9.toNat + paceF Mt Ms Mf Ml nm t9 ≤ p0.toInt) ∧ r.toInt = 1) ∨ ((t9 ≠ -1 ∧ t9 ≠ 1000000 ∧ p0.toInt < Bg (paceF Mt Ms Mf Ml nm) Ht Hu nh t9.toNat + paceF Mt Ms Mf Ml nm t9) ∧ r.toInt = 0)))) (fun (u : Int64) t => va_P G vwCl [(qy, .inr (4, [.ref qy1, .ref qy2, .ref qy3, .ref qy4, .int zM, .ref qy5, .ref qy6, .int zH, .ref qy7, .int zT, .long u])), (qy1, .inl (cI, 40, .inl Mt)), (qy2, .inl (cI, 40, .inl Ms)), (qy3, .inl (cI, 40, .inl Mf)), (qy4, .inl (cI, 40, .inl Ml)), (qy5, .inl (cI, 20, .inl Ht)), (qy6, .inl (cI, 20, .inl Hu)), (qy7, .inl (cL, 40, .inr (.inl Tp)))] t.heap ∧ va_D (va_A [(qy, .inr (4, [.ref qy1, .ref qy2, .ref qy3, .ref qy4, .int zM, .ref qy5, .ref qy6, .int zH, .ref qy7, .int zT, .long bg])), (qy1, .inl (cI, 40, .inl Mt)), (qy2, .inl (cI, 40, .inl Ms)), (qy3, .inl (cI, 40, .inl Mf)), (qy4, .inl (cI, 40, .inl Ml)), (qy5, .inl (cI, 20, .inl Ht)), (qy6, .inl (cI, 20, .inl Hu)), (qy7, .inl (cL, 40, .inr (.inl Tp)))] sz) [(qy, .inr (4, [.ref qy1, .ref qy2, .ref qy3, .ref qy4, .int zM, .ref qy5, .ref qy6, .int zH, .ref qy7, .int zT, .long u])), (qy1, .inl (cI, 40, .inl Mt)), (qy2, .inl (cI, 40, .inl Ms)), (qy3, .inl (cI, 40, .inl Mf)), (qy4, .inl (cI, 40, .inl Ml)), (qy5, .inl (cI, 20, .inl Ht)), (qy6, .inl (cI, 20, .inl Hu)), (qy7, .inl (cL, 40, .inr (.inl Tp)))]) (va_A [(qy, .inr (4, [.ref qy1, .ref qy2, .ref qy3, .ref qy4, .int zM, .ref qy5, .ref qy6, .int zH, .ref qy7, .int zT, .long bg])), (qy1, .inl (cI, 40, .inl Mt)), (qy2, .inl (cI, 40, .inl Ms)), (qy3, .inl (cI, 40, .inl Mf)), (qy4, .inl (cI, 40, .inl Ml)), (qy5, .inl (cI, 20, .inl Ht)), (qy6, .inl (cI, 20, .inl Hu)), (qy7, .inl (cL, 40, .inr (.inl Tp)))] sz)) 0 0 (va_A [(qy, .inr (4, [.ref qy1, .ref qy2, .ref qy3, .ref qy4, .int zM, .ref qy5, .ref qy6, .int zH, .ref qy7, .int zT, .long bg])), (qy1, .inl (cI, 40, .inl Mt)), (qy2, .inl (cI, 40, .inl Ms)), (qy3, .inl (cI, 40, .inl Mf)), (qy4, .inl (cI, 40, .inl Ml)), (qy5, .inl (cI, 20, .inl Ht)), (qy6, .inl (cI, 20, .inl Hu)), (qy7, .inl (cL, 40, .inr (.inl Tp)))] sz) := by
  refine Met.ofW (cc := cX4_held) (maxL := 4) (ret := (some .int)) (by decide) rfl ?_
  intro p e s m args below meth c s₁ B hml hv
  obtain ⟨rfl, hsz, hP, hK, hD0, hN⟩ := hv
  have hx := B.exec
  have hb := B.bytes
  have hr := B.returns
  have hts := atoms_spec (ws := wsX4_held) B.pre
  have hown : s.vm.findClass RX4 = some m.cls := findClass_of_methodNamed B.named
  have hlocks := B.notSynchronized
  subst hsz
  have hD := hD0.self (sz := s.heap.size)
  generalize hAe : va_A [(qy, .inr (4, [.ref qy1, .ref qy2, .ref qy3, .ref qy4, .int zM, .ref qy5, .ref qy6, .int zH, .ref qy7, .int zT, .long bg])), (qy1, .inl (cI, 40, .inl Mt)), (qy2, .inl (cI, 40, .inl Ms)), (qy3, .inl (cI, 40, .inl Mf)), (qy4, .inl (cI, 40, .inl Ml)), (qy5, .inl (cI, 20, .inl Ht)), (qy6, .inl (cI, 20, .inl Hu)), (qy7, .inl (cL, 40, .inr (.inl Tp)))] s.heap.size = A at hD ⊢
  have hA : ∀ q : Nat, s.heap.size ≤ q → A q := fun q h => by rw [← hAe]; exact Or.inr h
  have hP : va_P G vwCl [(qy, .inr (4, [.ref qy1, .ref qy2, .ref qy3, .ref qy4, .int zM, .ref qy5, .ref qy6, .int zH, .ref qy7, .int zT, .long bg])), (qy1, .inl (cI, 40, .inl Mt)), (qy2, .inl (cI, 40, .inl Ms)), (qy3, .inl (cI, 40, .inl Mf)), (qy4, .inl (cI, 40, .inl Ml)), (qy5, .inl (cI, 20, .inl Ht)), (qy6, .inl (cI, 20, .inl Hu)), (qy7, .inl (cL, 40, .inr (.inl Tp)))] s.heap := hP
  have hl := lv_entry ([.ref qy, .long p0]) (n := 4) (Nat.le_of_ble_eq_true rfl)
  rw [lg_entry_eq]
  generalize (lg_sl ([.ref qy, .long p0]) ++ List.replicate (4 - (lg_sl ([.ref qy, .long p0])).length) Slot.unset).toArray = ls at hl ⊢
  have hl : lv_has ls 4 [(0, .ref qy), (1, .long p0)] := hl
  have hf95 := hts (.fieldLink RX4 95 "TempoMapsModel" "begunAt" "J") (by decide +kernel)
  have hiX4 : ∀ w ∈ wsX40, w ∈ wsX4_held := by decide +kernel
  have zim2 : ((-2 : Int32)).toInt = -2 := by decide
  have zim1 : ((-1 : Int32)).toInt = -1 := by decide
  have zi0 : ((0 : Int32)).toInt = 0 := by decide
  have zi1 : ((1 : Int32)).toInt = 1 := by decide
  have zi1000000 : ((1000000 : Int32)).toInt = 1000000 := by decide
  have zl0 : ((0 : Int64)).toInt = 0 := by decide
  refine w_h (A := A) hP (fun H locs hP hS => ?_)
  have hn40 := hOM.1
  have hrg := hOM.2.1
  have hn20 := hOH.1
  have hrh := hOH.2.1
  have hn41 := hOT.1
  have hrt := hOT.2.1
  have zz0 : ((0 : Int32)).toInt = 0 := by decide
  have hB := fun (x : Nat) (hx : x ≤ 1000000) => Bg_rng (P := paceF Mt Ms Mf Ml nm) (pace_rng hOM) hOH hx
  have rgp := tl_rng p0
  refine lv_lload_n hx hb dX4_held_0 rfl (lv_at hl 1 rfl) ?_
  refine lv_lconst (v := 0) hx hb dX4_held_1 (by decide) ?_
  refine W.lcmp hx hb dX4_held_2 ?_
  refine lv_if_ge (tgt := 9) hx hb dX4_held_3 (by decide) (fun c3 => ?_) (fun c3 => ?_)
  · have k3 : (0 : Int) ≤ p0.toInt := l_le (show ((0 : Int64)).toInt = 0 by decide) rfl ((lg_cmp_ge _ _).mp c3)
    refine lv_aload_n hx hb dX4_held_9 rfl (lv_at hl 0 rfl) ?_
    refine lv_lload_n hx hb dX4_held_10 rfl (lv_at hl 1 rfl) ?_
    have hPc := hP.sub (ws' := [(qy, .inr (4, [.ref qy1, .ref qy2, .ref qy3, .ref qy4, .int zM, .ref qy5, .ref qy6, .int zH, .ref qy7, .int zT, .long bg])), (qy1, .inl (cI, 40, .inl Mt)), (qy2, .inl (cI, 40, .inl Ms)), (qy3, .inl (cI, 40, .inl Mf)), (qy4, .inl (cI, 40, .inl Ml)), (qy5, .inl (cI, 20, .inl Ht)), (qy6, .inl (cI, 20, .inl Hu)), (qy7, .inl (cL, 40, .inr (.inl Tp)))]) [0, 1, 2, 3, 4, 5, 6, 7] rfl
    have hDc := hD.sub (ws' := [(qy, .inr (4, [.ref qy1, .ref qy2, .ref qy3, .ref qy4, .int zM, .ref qy5, .ref qy6, .int zH, .ref qy7, .int zT, .long bg])), (qy1, .inl (cI, 40, .inl Mt)), (qy2, .inl (cI, 40, .inl Ms)), (qy3, .inl (cI, 40, .inl Mf)), (qy4, .inl (cI, 40, .inl Ml)), (qy5, .inl (cI, 20, .inl Ht)), (qy6, .inl (cI, 20, .inl Hu)), (qy7, .inl (cL, 40, .inr (.inl Tp)))]) [0, 1, 2, 3, 4, 5, 6, 7] (by decide) rfl
    have hcc := (ct_X4_lastBegun l G cI cL H.size qy qy1 qy2 qy3 qy4 qy5 qy6 qy7 zM zH zT bg Mt Ms Mf Ml Ht Hu Tp p0 nm hnM hOM nh hnH hOH nt hnT hOT (by omega))
    refine rw_calli (wr := ([] : va_W)) (va_runV (As := [.long p0]) (rest := []) ⟨hx, hb, hml, hown, hts⟩ hcc (cwV 1 hts gX4_held_X4_lastBegun rfl rfl rfl (by decide +kernel) ⟨Nat.le_of_ble_eq_true rfl, Nat.le_of_ble_eq_true rfl⟩) ⟨pre_blind, va_recv hK hPc (ci := 4) (q0 := 0) rfl rfl, pre_pass hK hN hPc hDc⟩ rfl rfl hl.1 rfl (lv_room (Nat.le_of_ble_eq_true rfl)) dX4_held_11 ⟨Nat.le_of_ble_eq_true rfl, Nat.le_of_ble_eq_true rfl⟩) hP hD hS hA [0, 1, 2, 3, 4, 5, 6, 7] [] rfl rfl (by decide) (by decide) (fun r11 u11 H locs hw11 hP hD hS => ?_)
    obtain ⟨bg11, rfl⟩ : ∃ z, z = u11 := ⟨_, rfl⟩
    have hP : va_P G vwCl [(qy, .inr (4, [.ref qy1, .ref qy2, .ref qy3, .ref qy4, .int zM, .ref qy5, .ref qy6, .int zH, .ref qy7, .int zT, .long bg11])), (qy1, .inl (cI, 40, .inl Mt)), (qy2, .inl (cI, 40, .inl Ms)), (qy3, .inl (cI, 40, .inl Mf)), (qy4, .inl (cI, 40, .inl Ml)), (qy5, .inl (cI, 20, .inl Ht)), (qy6, .inl (cI, 20, .inl Hu)), (qy7, .inl (cL, 40, .inr (.inl Tp)))] H := hP.sub [0, 1, 2, 3, 4, 5, 6, 7] rfl
    have hD : va_D A [(qy, .inr (4, [.ref qy1, .ref qy2, .ref qy3, .ref qy4, .int zM, .ref qy5, .ref qy6, .int zH, .ref qy7, .int zT, .long bg11])), (qy1, .inl (cI, 40, .inl Mt)), (qy2, .inl (cI, 40, .inl Ms)), (qy3, .inl (cI, 40, .inl Mf)), (qy4, .inl (cI, 40, .inl Ml)), (qy5, .inl (cI, 20, .inl Ht)), (qy6, .inl (cI, 20, .inl Hu)), (qy7, .inl (cL, 40, .inr (.inl Tp)))] := hD.sub [0, 1, 2, 3, 4, 5, 6, 7] (by decide) rfl
    try dsimp only at hw11
    refine lv_istore_n (lv' := [(3, .int r11), (0, .ref qy), (1, .long p0)]) hx hb dX4_held_14 rfl hl (by decide) rfl (fun ls hl => ?_)
    refine lv_iload_n hx hb dX4_held_15 rfl (lv_at hl 0 rfl) ?_
    refine lv_iconst (v := (-1)) hx hb dX4_held_16 (by decide) ?_
    refine lv_icmp_eq (tgt := 42) hx hb dX4_held_17 (by decide) (fun c17 => ?_) (fun c17 => ?_)
    · have k17 : (r11.toInt : Int) = (-1) := i_eq rfl (show ((-1 : Int32)).toInt = -1 by decide) c17
      refine lv_iconst (v := 1) hx hb dX4_held_42 (by decide) ?_
      refine lv_goto (tgt := 47) hx hb dX4_held_43 (by decide) ?_
      exact W.iret (v := 1) hx hb hr (fun t ht hW => ⟨⟨1, bg11, rfl, (by (try dsimp only); exact (by first | exact Or.inr ⟨by omega, r11.toInt, hw11.1, Or.inl ⟨by omega, by omega⟩⟩ | exact Or.inr ⟨by omega, r11.toInt, hw11.1, Or.inr ⟨by omega, by omega⟩⟩)), by rw [ht]; exact hP, hD⟩, hS.F ht⟩) hS.2.2 dX4_held_47
    · have k17 : (r11.toInt : Int) ≠ (-1) := i_ne rfl (show ((-1 : Int32)).toInt = -1 by decide) c17
      refine lv_iload_n hx hb dX4_held_20 rfl (lv_at hl 0 rfl) ?_
      refine lv_ldc (v := 1000000) hx hb hown (hts (.constant RX4 61 1000000) (by decide +kernel)) dX4_held_21 ?_
      refine lv_icmp_eq (tgt := 42) hx hb dX4_held_23 (by decide) (fun c23 => ?_) (fun c23 => ?_)
      · have k23 : (r11.toInt : Int) = 1000000 := i_eq rfl (show ((1000000 : Int32)).toInt = 1000000 by decide) c23
        refine lv_iconst (v := 1) hx hb dX4_held_42 (by decide) ?_
        refine lv_goto (tgt := 47) hx hb dX4_held_43 (by decide) ?_
        exact W.iret (v := 1) hx hb hr (fun t ht hW => ⟨⟨1, bg11, rfl, (by (try dsimp only); exact (by first | exact Or.inr ⟨by omega, r11.toInt, hw11.1, Or.inl ⟨by omega, by omega⟩⟩ | exact Or.inr ⟨by omega, r11.toInt, hw11.1, Or.inr ⟨by omega, by omega⟩⟩)), by rw [ht]; exact hP, hD⟩, hS.F ht⟩) hS.2.2 dX4_held_47
      · have k23 : (r11.toInt : Int) ≠ 1000000 := i_ne rfl (show ((1000000 : Int32)).toInt = 1000000 by decide) c23
        have lr : 0 ≤ r11.toInt ∧ r11.toInt < 1000000 ∧ Bg (paceF Mt Ms Mf Ml nm) Ht Hu nh r11.toInt.toNat ≤ p0.toInt := by rcases hw11.1 with h | h | h; omega; exact ⟨h.1, h.2.1, h.2.2.1⟩; omega
        have lq := hB r11.toInt.toNat (by omega)
        have lb := hw11.2 lr.1 lr.2.1
        have lp := pace_rng hOM r11.toInt
        refine lv_lload_n hx hb dX4_held_26 rfl (lv_at hl 2 rfl) ?_
        refine lv_aload_n hx hb dX4_held_27 rfl (lv_at hl 1 rfl) ?_
        refine va_get (D := G) (ci := 4) (v := .long bg11) (C := RX4) (T := TX4) (N := 11) hx hb hts hiX4 hown hK hP 0 rfl rfl 10 (by decide) hf95 (fun _ h9 => h9) rfl dX4_held_28 ?_
        refine lv_aload_n hx hb dX4_held_31 rfl (lv_at hl 1 rfl) ?_
        refine lv_iload_n hx hb dX4_held_32 rfl (lv_at hl 0 rfl) ?_
        have hPc := hP.sub (ws' := [(qy, .inr (4, [.ref qy1, .ref qy2, .ref qy3, .ref qy4, .int zM, .ref qy5, .ref qy6, .int zH, .ref qy7, .int zT, .long bg11])), (qy1, .inl (cI, 40, .inl Mt)), (qy2, .inl (cI, 40, .inl Ms)), (qy3, .inl (cI, 40, .inl Mf)), (qy4, .inl (cI, 40, .inl Ml)), (qy5, .inl (cI, 20, .inl Ht)), (qy6, .inl (cI, 20, .inl Hu)), (qy7, .inl (cL, 40, .inr (.inl Tp)))]) [0, 1, 2, 3, 4, 5, 6, 7] rfl
        have hDc := hD.sub (ws' := [(qy, .inr (4, [.ref qy1, .ref qy2, .ref qy3, .ref qy4, .int zM, .ref qy5, .ref qy6, .int zH, .ref qy7, .int zT, .long bg11])), (qy1, .inl (cI, 40, .inl Mt)), (qy2, .inl (cI, 40, .inl Ms)), (qy3, .inl (cI, 40, .inl Mf)), (qy4, .inl (cI, 40, .inl Ml)), (qy5, .inl (cI, 20, .inl Ht)), (qy6, .inl (cI, 20, .inl Hu)), (qy7, .inl (cL, 40, .inr (.inl Tp)))]) [0, 1, 2, 3, 4, 5, 6, 7] (by decide) rfl
        have hcc := (ct_X4_paceAt l G cI cL H.size qy qy1 qy2 qy3 qy4 qy5 qy6 qy7 zM zH zT bg11 Mt Ms Mf Ml Ht Hu Tp r11 nm hnM hOM nh hnH hOH nt hnT hOT (by omega))
        refine ro_calli (va_runV (As := [.int r11]) (rest := [.long bg11, .long p0]) ⟨hx, hb, hml, hown, hts⟩ hcc (cwV 1 hts gX4_held_X4_paceAt rfl rfl rfl (by decide +kernel) ⟨Nat.le_of_ble_eq_true rfl, Nat.le_of_ble_eq_true rfl⟩) ⟨pre_blind, va_recv hK hPc (ci := 4) (q0 := 0) rfl rfl, pre_pass hK hN hPc hDc⟩ rfl rfl hl.1 rfl (lv_room (Nat.le_of_ble_eq_true rfl)) dX4_held_33 ⟨Nat.le_of_ble_eq_true rfl, Nat.le_of_ble_eq_true rfl⟩) hP hD hS hA [0, 1, 2, 3, 4, 5, 6, 7] rfl (fun r33 H locs hw33 hP hS => ?_)
        try dsimp only at hw33
        refine lv_i2l hx hb dX4_held_36 rfl ?_
        refine lv_topl (fun x36 ex36 => ?_)
        have tx36 : x36.toInt = r33.toInt := by rw [ex36]; exact tc_i2l rfl
        refine lv_ladd hx hb dX4_held_37 ?_
        refine lv_topl (fun x37 ex37 => ?_)
        have tx37 : x37.toInt = bg11.toInt + r33.toInt := by rw [ex37]; exact tl_add rfl tx36 (by omega) (by omega)
        refine W.lcmp hx hb dX4_held_38 ?_
        refine lv_if_lt (tgt := 46) hx hb dX4_held_39 (by decide) (fun c39 => ?_) (fun c39 => ?_)
        · have k39 : (p0.toInt : Int) < x37.toInt := l_lt rfl rfl ((lg_cmp_lt _ _).mp c39)
          refine lv_iconst (v := 0) hx hb dX4_held_46 (by decide) ?_
          exact W.iret (v := 0) hx hb hr (fun t ht hW => ⟨⟨0, bg11, rfl, (by (try dsimp only); exact (by first | exact Or.inr ⟨by omega, r11.toInt, hw11.1, Or.inl ⟨by omega, by omega⟩⟩ | exact Or.inr ⟨by omega, r11.toInt, hw11.1, Or.inr ⟨by omega, by omega⟩⟩)), by rw [ht]; exact hP, hD⟩, hS.F ht⟩) hS.2.2 dX4_held_47
        · have k39 : (x37.toInt : Int) ≤ p0.toInt := l_nlt rfl rfl (fun h9 => c39 ((lg_cmp_lt _ _).mpr h9))
          refine lv_iconst (v := 1) hx hb dX4_held_42 (by decide) ?_
          refine lv_goto (tgt := 47) hx hb dX4_held_43 (by decide) ?_
          exact W.iret (v := 1) hx hb hr (fun t ht hW => ⟨⟨1, bg11, rfl, (by (try dsimp only); exact (by first | exact Or.inr ⟨by omega, r11.toInt, hw11.1, Or.inl ⟨by omega, by omega⟩⟩ | exact Or.inr ⟨by omega, r11.toInt, hw11.1, Or.inr ⟨by omega, by omega⟩⟩)), by rw [ht]; exact hP, hD⟩, hS.F ht⟩) hS.2.2 dX4_held_47
  · have k3 : (p0.toInt : Int) < 0 := l_nle (show ((0 : Int64)).toInt = 0 by decide) rfl (fun h9 => c3 ((lg_cmp_ge _ _).mpr h9))
    refine lv_bipush (v := (-2)) hx hb dX4_held_6 (by decide) ?_
    exact W.iret (v := (-2)) hx hb hr (fun t ht hW => ⟨⟨(-2), bg, rfl, (by (try dsimp only); exact (Or.inl ⟨by omega, by omega⟩)), by rw [ht]; exact hP, hD⟩, hS.F ht⟩) hS.2.2 dX4_held_8

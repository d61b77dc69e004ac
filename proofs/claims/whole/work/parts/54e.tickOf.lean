set_option maxHeartbeats 1000000 in
set_option maxRecDepth 100000 in
theorem ct_X4_tickOf (l : Launch) (G : va_G) (cI cL : ClassId) (sz : Nat) (qy : Nat) (qy1 : Nat) (qy2 : Nat) (qy3 : Nat) (qy4 : Nat) (qy5 : Nat) (qy6 : Nat) (qy7 : Nat) (zM : Int32) (zH : Int32) (zT : Int32) (bg : Int64) (Mt : Nat → Int32) (Ms : Nat → Int32) (Mf : Nat → Int32) (Ml : Nat → Int32) (Ht : Nat → Int32) (Hu : Nat → Int32) (Tp : Nat → Int64) (p0 : Int64) (p1 : Int32) (nm : Nat) (hnM : zM.toInt = nm) (hOM : okM nm Mt Ms Mf Ml) (nh : Nat) (hnH : zH.toInt = nh) (hOH : okH nh Ht Hu) (nt : Nat) (hnT : zT.toInt = nt) (hOT : okT nt Tp) : Met l yX4_tickOf wsX4_tickOf ({ frames := 3, cells := 0, slots := 0, locals := 82 }) (va_Pc [.ref qy, .long p0, .int p1] (pre0 G cI cL [(qy, .inr (4, [.ref qy1, .ref qy2, .ref qy3, .ref qy4, .int zM, .ref qy5, .ref qy6, .int zH, .ref qy7, .int zT, .long bg])), (qy1, .inl (cI, 40, .inl Mt)), (qy2, .inl (cI, 40, .inl Ms)), (qy3, .inl (cI, 40, .inl Mf)), (qy4, .inl (cI, 40, .inl Ml)), (qy5, .inl (cI, 20, .inl Ht)), (qy6, .inl (cI, 20, .inl Hu)), (qy7, .inl (cL, 40, .inr (.inl Tp)))] sz)) (va_Qi (fun (r : Int32) (u : Int64) => ((p0.toInt < 0 ∨ p1.toInt < 1 ∨ 192000 < p1.toInt) ∧ r.toInt = -2) ∨ ((0 ≤ p0.toInt ∧ 1 ≤ p1.toInt ∧ p1.toInt ≤ 192000) ∧ tkOf (Bg (paceF Mt Ms Mf Ml nm) Ht Hu nh) (p0.toInt * 1000000) p1.toInt r.toInt)) (fun (u : Int64) t => va_P G vwCl [(qy, .inr (4, [.ref qy1, .ref qy2, .ref qy3, .ref qy4, .int zM, .ref qy5, .ref qy6, .int zH, .ref qy7, .int zT, .long u])), (qy1, .inl (cI, 40, .inl Mt)), (qy2, .inl (cI, 40, .inl Ms)), (qy3, .inl (cI, 40, .inl Mf)), (qy4, .inl (cI, 40, .inl Ml)), (qy5, .inl (cI, 20, .inl Ht)), (qy6, .inl (cI, 20, .inl Hu)), (qy7, .inl (cL, 40, .inr (.inl Tp)))] t.heap ∧ va_D (va_A [(qy, .inr (4, [.ref qy1, .ref qy2, .ref qy3, .ref qy4, .int zM, .ref qy5, .ref qy6, .int zH, .ref qy7, .int zT, .long bg])), (qy1, .inl (cI, 40, .inl Mt)), (qy2, .inl (cI, 40, .inl Ms)), (qy3, .inl (cI, 40, .inl Mf)), (qy4, .inl (cI, 40, .inl Ml)), (qy5, .inl (cI, 20, .inl Ht)), (qy6, .inl (cI, 20, .inl Hu)), (qy7, .inl (cL, 40, .inr (.inl Tp)))] sz) [(qy, .inr (4, [.ref qy1, .ref qy2, .ref qy3, .ref qy4, .int zM, .ref qy5, .ref qy6, .int zH, .ref qy7, .int zT, .long u])), (qy1, .inl (cI, 40, .inl Mt)), (qy2, .inl (cI, 40, .inl Ms)), (qy3, .inl (cI, 40, .inl Mf)), (qy4, .inl (cI, 40, .inl Ml)), (qy5, .inl (cI, 20, .inl Ht)), (qy6, .inl (cI, 20, .inl Hu)), (qy7, .inl (cL, 40, .inr (.inl Tp)))]) (va_A [(qy, .inr (4, [.ref qy1, .ref qy2, .ref qy3, .ref qy4, .int zM, .ref qy5, .ref qy6, .int zH, .ref qy7, .int zT, .long bg])), (qy1, .inl (cI, 40, .inl Mt)), (qy2, .inl (cI, 40, .inl Ms)), (qy3, .inl (cI, 40, .inl Mf)), (qy4, .inl (cI, 40, .inl Ml)), (qy5, .inl (cI, 20, .inl Ht)), (qy6, .inl (cI, 20, .inl Hu)), (qy7, .inl (cL, 40, .inr (.inl Tp)))] sz)) 0 0 (va_A [(qy, .inr (4, [.ref qy1, .ref qy2, .ref qy3, .ref qy4, .int zM, .ref qy5, .ref qy6, .int zH, .ref qy7, .int zT, .long bg])), (qy1, .inl (cI, 40, .inl Mt)), (qy2, .inl (cI, 40, .inl Ms)), (qy3, .inl (cI, 40, .inl Mf)), (qy4, .inl (cI, 40, .inl Ml)), (qy5, .inl (cI, 20, .inl Ht)), (qy6, .inl (cI, 20, .inl Hu)), (qy7, .inl (cL, 40, .inr (.inl Tp)))] sz) := by
  refine Met.ofW (cc := cX4_tickOf) (maxL := 7) (ret := (some .int)) (by decide) rfl ?_
  intro p e s m args below meth c s₁ B hml hv
  obtain ⟨rfl, hsz, hP, hK, hD0, hN⟩ := hv
  have hx := B.exec
  have hb := B.bytes
  have hr := B.returns
  have hts := atoms_spec (ws := wsX4_tickOf) B.pre
  have hown : s.vm.findClass RX4 = some m.cls := findClass_of_methodNamed B.named
  have hlocks := B.notSynchronized
  subst hsz
  have hD := hD0.self (sz := s.heap.size)
  generalize hAe : va_A [(qy, .inr (4, [.ref qy1, .ref qy2, .ref qy3, .ref qy4, .int zM, .ref qy5, .ref qy6, .int zH, .ref qy7, .int zT, .long bg])), (qy1, .inl (cI, 40, .inl Mt)), (qy2, .inl (cI, 40, .inl Ms)), (qy3, .inl (cI, 40, .inl Mf)), (qy4, .inl (cI, 40, .inl Ml)), (qy5, .inl (cI, 20, .inl Ht)), (qy6, .inl (cI, 20, .inl Hu)), (qy7, .inl (cL, 40, .inr (.inl Tp)))] s.heap.size = A at hD ⊢
  have hA : ∀ q : Nat, s.heap.size ≤ q → A q := fun q h => by rw [← hAe]; exact Or.inr h
  have hP : va_P G vwCl [(qy, .inr (4, [.ref qy1, .ref qy2, .ref qy3, .ref qy4, .int zM, .ref qy5, .ref qy6, .int zH, .ref qy7, .int zT, .long bg])), (qy1, .inl (cI, 40, .inl Mt)), (qy2, .inl (cI, 40, .inl Ms)), (qy3, .inl (cI, 40, .inl Mf)), (qy4, .inl (cI, 40, .inl Ml)), (qy5, .inl (cI, 20, .inl Ht)), (qy6, .inl (cI, 20, .inl Hu)), (qy7, .inl (cL, 40, .inr (.inl Tp)))] s.heap := hP
  have hl := lv_entry ([.ref qy, .long p0, .int p1]) (n := 7) (Nat.le_of_ble_eq_true rfl)
  rw [lg_entry_eq]
  generalize (lg_sl ([.ref qy, .long p0, .int p1]) ++ List.replicate (7 - (lg_sl ([.ref qy, .long p0, .int p1])).length) Slot.unset).toArray = ls at hl ⊢
  have hl : lv_has ls 7 [(0, .ref qy), (1, .long p0), (3, .int p1)] := hl
  have zim2 : ((-2 : Int32)).toInt = -2 := by decide
  have zim1 : ((-1 : Int32)).toInt = -1 := by decide
  have zi0 : ((0 : Int32)).toInt = 0 := by decide
  have zi1 : ((1 : Int32)).toInt = 1 := by decide
  have zi1000000 : ((1000000 : Int32)).toInt = 1000000 := by decide
  have zl0 : ((0 : Int64)).toInt = 0 := by decide
  have zl1 : ((1 : Int64)).toInt = 1 := by decide
  have zl192000 : ((192000 : Int64)).toInt = 192000 := by decide
  have zl1000000 : ((1000000 : Int64)).toInt = 1000000 := by decide
  have zl300000000000 : ((300000000000 : Int64)).toInt = 300000000000 := by decide
  refine w_h (A := A) hP (fun H locs hP hS => ?_)
  have hn40 := hOM.1
  have hrg := hOM.2.1
  have hn20 := hOH.1
  have hrh := hOH.2.1
  have hn41 := hOT.1
  have hrt := hOT.2.1
  have zz0 : ((0 : Int32)).toInt = 0 := by decide
  have hB := fun (x : Nat) (hx : x ≤ 1000000) => Bg_rng (P := paceF Mt Ms Mf Ml nm) (pace_rng hOM) hOH hx
  have rgp := tl_rng p0
  refine lv_lload_n hx hb dX4_tickOf_0 rfl (lv_at hl 1 rfl) ?_
  refine lv_lconst (v := 0) hx hb dX4_tickOf_1 (by decide) ?_
  refine W.lcmp hx hb dX4_tickOf_2 ?_
  refine lv_if_lt (tgt := 18) hx hb dX4_tickOf_3 (by decide) (fun c3 => ?_) (fun c3 => ?_)
  · have k3 : (p0.toInt : Int) < 0 := l_lt rfl (show ((0 : Int64)).toInt = 0 by decide) ((lg_cmp_lt _ _).mp c3)
    refine lv_bipush (v := (-2)) hx hb dX4_tickOf_18 (by decide) ?_
    exact W.iret (v := (-2)) hx hb hr (fun t ht hW => ⟨⟨(-2), bg, rfl, (by (try dsimp only); exact (Or.inl ⟨by omega, by omega⟩)), by rw [ht]; exact hP, hD⟩, hS.F ht⟩) hS.2.2 dX4_tickOf_20
  · have k3 : (0 : Int) ≤ p0.toInt := l_nlt rfl (show ((0 : Int64)).toInt = 0 by decide) (fun h9 => c3 ((lg_cmp_lt _ _).mpr h9))
    refine lv_iload_n hx hb dX4_tickOf_6 rfl (lv_at hl 2 rfl) ?_
    refine lv_i2l hx hb dX4_tickOf_7 rfl ?_
    refine lv_topl (fun x7 ex7 => ?_)
    have tx7 : x7.toInt = p1.toInt := by rw [ex7]; exact tc_i2l rfl
    refine lv_lconst (v := 1) hx hb dX4_tickOf_8 (by decide) ?_
    refine lv_ldc2 (v := 192000) hx hb hown (hts (.constantLong RX4 103 192000) (by decide +kernel)) dX4_tickOf_9 ?_
    have hPc := hP.sub (ws' := ([] : va_W)) [] rfl
    have hDc := hD.sub (ws' := ([] : va_W)) [] (by decide) rfl
    have hcc := (ct_X4_in l G cI cL H.size x7 1 192000)
    refine ro_calli (va_runS (As := [.long x7, .long 1, .long 192000]) (rest := []) ⟨hx, hb, hml, hown, hts⟩ hcc (va_cwS 3 hts gX4_tickOf_X4_in rfl rfl rfl (by decide +kernel) ⟨Nat.le_of_ble_eq_true rfl, Nat.le_of_ble_eq_true rfl⟩) ⟨pre_blind, pre_pass hK hN hPc hDc⟩ rfl rfl hl.1 rfl (lv_room (Nat.le_of_ble_eq_true rfl)) dX4_tickOf_12 ⟨Nat.le_of_ble_eq_true rfl, Nat.le_of_ble_eq_true rfl⟩) hP hD hS hA [] rfl (fun r12 H locs hw12 hP hS => ?_)
    try dsimp only at hw12
    refine lv_if_ne (tgt := 21) hx hb dX4_tickOf_15 (by decide) (fun c15 => ?_) (fun c15 => ?_)
    · have k15 : (r12.toInt : Int) ≠ 0 := i_ne rfl (show ((0 : Int32)).toInt = 0 by decide) c15
      refine lv_lload_n hx hb dX4_tickOf_21 rfl (lv_at hl 1 rfl) ?_
      refine lv_lconst (v := 0) hx hb dX4_tickOf_22 (by decide) ?_
      refine W.lcmp hx hb dX4_tickOf_23 ?_
      refine lv_if_ne (tgt := 29) hx hb dX4_tickOf_24 (by decide) (fun c24 => ?_) (fun c24 => ?_)
      · have k24 : (p0.toInt : Int) ≠ 0 := l_ne rfl (show ((0 : Int64)).toInt = 0 by decide) (fun h9 => c24 ((lg_cmp_eq _ _).mpr h9))
        refine lv_lload_n hx hb dX4_tickOf_29 rfl (lv_at hl 1 rfl) ?_
        refine lv_ldc2 (v := 300000000000) hx hb hown (hts (.constantLong RX4 109 300000000000) (by decide +kernel)) dX4_tickOf_30 ?_
        refine W.lcmp hx hb dX4_tickOf_33 ?_
        refine lv_if_le (tgt := 39) hx hb dX4_tickOf_34 (by decide) (fun c34 => ?_) (fun c34 => ?_)
        · have k34 : (p0.toInt : Int) ≤ 300000000000 := l_le rfl (show ((300000000000 : Int64)).toInt = 300000000000 by decide) ((lg_cmp_le _ _).mp c34)
          refine lv_lload_n hx hb dX4_tickOf_39 rfl (lv_at hl 1 rfl) ?_
          refine lv_ldc2 (v := 1000000) hx hb hown (hts (.constantLong RX4 53 1000000) (by decide +kernel)) dX4_tickOf_40 ?_
          refine lv_lmul hx hb dX4_tickOf_43 ?_
          refine lv_topl (fun x43 ex43 => ?_)
          have tx43 : x43.toInt = p0.toInt * 1000000 := by rw [ex43]; exact tl_mul rfl (show ((1000000 : Int64)).toInt = 1000000 by decide) (by omega) (by omega)
          refine lv_iload_n hx hb dX4_tickOf_44 rfl (lv_at hl 2 rfl) ?_
          refine lv_i2l hx hb dX4_tickOf_45 rfl ?_
          refine lv_topl (fun x45 ex45 => ?_)
          have tx45 : x45.toInt = p1.toInt := by rw [ex45]; exact tc_i2l rfl
          refine lv_ladd hx hb dX4_tickOf_46 ?_
          refine lv_topl (fun x46 ex46 => ?_)
          have tx46 : x46.toInt = x43.toInt + p1.toInt := by rw [ex46]; exact tl_add rfl tx45 (by omega) (by omega)
          refine lv_lconst (v := 1) hx hb dX4_tickOf_47 (by decide) ?_
          refine lv_lsub hx hb dX4_tickOf_48 ?_
          refine lv_topl (fun x48 ex48 => ?_)
          have tx48 : x48.toInt = x46.toInt - 1 := by rw [ex48]; exact tl_sub rfl (show ((1 : Int64)).toInt = 1 by decide) (by omega) (by omega)
          refine lv_iload_n hx hb dX4_tickOf_49 rfl (lv_at hl 2 rfl) ?_
          refine lv_i2l hx hb dX4_tickOf_50 rfl ?_
          refine lv_topl (fun x50 ex50 => ?_)
          have tx50 : x50.toInt = p1.toInt := by rw [ex50]; exact tc_i2l rfl
          refine lv_ldiv hx hb dX4_tickOf_51 (l_ne0 tx50 (by omega)) ?_
          refine lv_topl (fun x51 ex51 => ?_)
          have tx51 : x51.toInt = x48.toInt / p1.toInt := by rw [ex51]; exact tl_div rfl tx50 (by omega) (by omega)
          refine lv_lstore (lv' := [(4, .long x51), (0, .ref qy), (1, .long p0), (3, .int p1)]) hx hb dX4_tickOf_52  hl (by decide) rfl (fun ls hl => ?_)
          have cl := fun b => ceil_le (F := p0.toInt * 1000000) (k := p1.toInt) (b := b) (by omega)
          have e51 : x51.toInt = (p0.toInt * 1000000 + p1.toInt - 1) / p1.toInt := by rw [tx51, show x48.toInt = p0.toInt * 1000000 + p1.toInt - 1 by omega]
          have g51 : 1 ≤ x51.toInt := by rw [e51]; exact Int.le_ediv_of_mul_le (by omega) (by omega)
          rw [← e51] at cl
          have rx := tl_rng x51
          refine lv_aload_n hx hb dX4_tickOf_54 rfl (lv_at hl 1 rfl) ?_
          refine lv_lload hx hb dX4_tickOf_55 (lv_at hl 0 rfl) ?_
          refine lv_lconst (v := 1) hx hb dX4_tickOf_57 (by decide) ?_
          refine lv_lsub hx hb dX4_tickOf_58 ?_
          refine lv_topl (fun x58 ex58 => ?_)
          have tx58 : x58.toInt = x51.toInt - 1 := by rw [ex58]; exact tl_sub rfl (show ((1 : Int64)).toInt = 1 by decide) (by omega) (by omega)
          have hPc := hP.sub (ws' := [(qy, .inr (4, [.ref qy1, .ref qy2, .ref qy3, .ref qy4, .int zM, .ref qy5, .ref qy6, .int zH, .ref qy7, .int zT, .long bg])), (qy1, .inl (cI, 40, .inl Mt)), (qy2, .inl (cI, 40, .inl Ms)), (qy3, .inl (cI, 40, .inl Mf)), (qy4, .inl (cI, 40, .inl Ml)), (qy5, .inl (cI, 20, .inl Ht)), (qy6, .inl (cI, 20, .inl Hu)), (qy7, .inl (cL, 40, .inr (.inl Tp)))]) [0, 1, 2, 3, 4, 5, 6, 7] rfl
          have hDc := hD.sub (ws' := [(qy, .inr (4, [.ref qy1, .ref qy2, .ref qy3, .ref qy4, .int zM, .ref qy5, .ref qy6, .int zH, .ref qy7, .int zT, .long bg])), (qy1, .inl (cI, 40, .inl Mt)), (qy2, .inl (cI, 40, .inl Ms)), (qy3, .inl (cI, 40, .inl Mf)), (qy4, .inl (cI, 40, .inl Ml)), (qy5, .inl (cI, 20, .inl Ht)), (qy6, .inl (cI, 20, .inl Hu)), (qy7, .inl (cL, 40, .inr (.inl Tp)))]) [0, 1, 2, 3, 4, 5, 6, 7] (by decide) rfl
          have hcc := (ct_X4_lastBegun l G cI cL H.size qy qy1 qy2 qy3 qy4 qy5 qy6 qy7 zM zH zT bg Mt Ms Mf Ml Ht Hu Tp x58 nm hnM hOM nh hnH hOH nt hnT hOT (by omega))
          refine rw_calli (wr := ([] : va_W)) (va_runV (As := [.long x58]) (rest := []) ⟨hx, hb, hml, hown, hts⟩ hcc (cwV 1 hts gX4_tickOf_X4_lastBegun rfl rfl rfl (by decide +kernel) ⟨Nat.le_of_ble_eq_true rfl, Nat.le_of_ble_eq_true rfl⟩) ⟨pre_blind, va_recv hK hPc (ci := 4) (q0 := 0) rfl rfl, pre_pass hK hN hPc hDc⟩ rfl rfl hl.1 rfl (lv_room (Nat.le_of_ble_eq_true rfl)) dX4_tickOf_59 ⟨Nat.le_of_ble_eq_true rfl, Nat.le_of_ble_eq_true rfl⟩) hP hD hS hA [0, 1, 2, 3, 4, 5, 6, 7] [] rfl rfl (by decide) (by decide) (fun r59 u59 H locs hw59 hP hD hS => ?_)
          obtain ⟨bg59, rfl⟩ : ∃ z, z = u59 := ⟨_, rfl⟩
          have hP : va_P G vwCl [(qy, .inr (4, [.ref qy1, .ref qy2, .ref qy3, .ref qy4, .int zM, .ref qy5, .ref qy6, .int zH, .ref qy7, .int zT, .long bg59])), (qy1, .inl (cI, 40, .inl Mt)), (qy2, .inl (cI, 40, .inl Ms)), (qy3, .inl (cI, 40, .inl Mf)), (qy4, .inl (cI, 40, .inl Ml)), (qy5, .inl (cI, 20, .inl Ht)), (qy6, .inl (cI, 20, .inl Hu)), (qy7, .inl (cL, 40, .inr (.inl Tp)))] H := hP.sub [0, 1, 2, 3, 4, 5, 6, 7] rfl
          have hD : va_D A [(qy, .inr (4, [.ref qy1, .ref qy2, .ref qy3, .ref qy4, .int zM, .ref qy5, .ref qy6, .int zH, .ref qy7, .int zT, .long bg59])), (qy1, .inl (cI, 40, .inl Mt)), (qy2, .inl (cI, 40, .inl Ms)), (qy3, .inl (cI, 40, .inl Mf)), (qy4, .inl (cI, 40, .inl Ml)), (qy5, .inl (cI, 20, .inl Ht)), (qy6, .inl (cI, 20, .inl Hu)), (qy7, .inl (cL, 40, .inr (.inl Tp)))] := hD.sub [0, 1, 2, 3, 4, 5, 6, 7] (by decide) rfl
          try dsimp only at hw59
          have lbr : -1 ≤ r59.toInt ∧ r59.toInt ≤ 1000000 := by rcases hw59.1 with h | h | h <;> omega
          refine lv_istore (lv' := [(6, .int r59), (4, .long x51), (0, .ref qy), (1, .long p0), (3, .int p1)]) hx hb dX4_tickOf_62  hl (by decide) rfl (fun ls hl => ?_)
          refine lv_iload hx hb dX4_tickOf_64 (lv_at hl 0 rfl) ?_
          refine lv_ldc (v := 1000000) hx hb hown (hts (.constant RX4 61 1000000) (by decide +kernel)) dX4_tickOf_66 ?_
          refine lv_icmp_ne (tgt := 75) hx hb dX4_tickOf_68 (by decide) (fun c68 => ?_) (fun c68 => ?_)
          · have k68 : (r59.toInt : Int) ≠ 1000000 := i_ne rfl (show ((1000000 : Int32)).toInt = 1000000 by decide) c68
            refine lv_iload hx hb dX4_tickOf_75 (lv_at hl 0 rfl) ?_
            refine lv_iconst (v := 1) hx hb dX4_tickOf_77 (by decide) ?_
            refine lv_iadd hx hb dX4_tickOf_78 ?_
            refine lv_topi (fun x78 ex78 => ?_)
            have tx78 : x78.toInt = r59.toInt + 1 := by rw [ex78]; exact ti_add rfl (show ((1 : Int32)).toInt = 1 by decide) (by omega) (by omega)
            have nx : ∀ x : Nat, Bg (paceF Mt Ms Mf Ml nm) Ht Hu nh x ≤ x58.toInt → Bg (paceF Mt Ms Mf Ml nm) Ht Hu nh x * p1.toInt < p0.toInt * 1000000 := fun x h => by rcases Int.lt_or_le (Bg (paceF Mt Ms Mf Ml nm) Ht Hu nh x * p1.toInt) (p0.toInt * 1000000) with q | q; exact q; have := (cl _).mpr q; omega
            exact W.iret (v := x78) hx hb hr (fun t ht hW => ⟨⟨x78, bg59, rfl, (by (try dsimp only); exact (by first | exact Or.inr ⟨by omega, Or.inl ⟨by omega, fun x hx => nx x (by rcases hw59.1 with h | h | h; omega; omega; have := Bg_le (P := paceF Mt Ms Mf Ml nm) (pace_rng hOM) hOH hx; omega)⟩⟩ | exact Or.inr ⟨by omega, Or.inr ⟨by rcases hw59.1 with h | h | h <;> omega, by rcases hw59.1 with h | h | h <;> omega, (cl _).mp (by rcases hw59.1 with h | h | h; rw [show x78.toInt.toNat = 0 by omega]; omega; rw [show x78.toInt.toNat = r59.toInt.toNat + 1 by omega]; omega; omega), fun x hx => nx x (by rcases hw59.1 with h | h | h; omega; have := Bg_le (P := paceF Mt Ms Mf Ml nm) (pace_rng hOM) hOH (show x ≤ r59.toInt.toNat by omega); omega; omega)⟩⟩)), by rw [ht]; exact hP, hD⟩, hS.F ht⟩) hS.2.2 dX4_tickOf_79
          · have k68 : (r59.toInt : Int) = 1000000 := i_eq rfl (show ((1000000 : Int32)).toInt = 1000000 by decide) c68
            refine lv_iconst (v := (-1)) hx hb dX4_tickOf_71 (by decide) ?_
            refine lv_goto (tgt := 79) hx hb dX4_tickOf_72 (by decide) ?_
            have nx : ∀ x : Nat, Bg (paceF Mt Ms Mf Ml nm) Ht Hu nh x ≤ x58.toInt → Bg (paceF Mt Ms Mf Ml nm) Ht Hu nh x * p1.toInt < p0.toInt * 1000000 := fun x h => by rcases Int.lt_or_le (Bg (paceF Mt Ms Mf Ml nm) Ht Hu nh x * p1.toInt) (p0.toInt * 1000000) with q | q; exact q; have := (cl _).mpr q; omega
            exact W.iret (v := (-1)) hx hb hr (fun t ht hW => ⟨⟨(-1), bg59, rfl, (by (try dsimp only); exact (by first | exact Or.inr ⟨by omega, Or.inl ⟨by omega, fun x hx => nx x (by rcases hw59.1 with h | h | h; omega; omega; have := Bg_le (P := paceF Mt Ms Mf Ml nm) (pace_rng hOM) hOH hx; omega)⟩⟩ | exact Or.inr ⟨by omega, Or.inr ⟨by rcases hw59.1 with h | h | h <;> omega, by rcases hw59.1 with h | h | h <;> omega, (cl _).mp (by rcases hw59.1 with h | h | h; rw [show x78.toInt.toNat = 0 by omega]; omega; rw [show x78.toInt.toNat = r59.toInt.toNat + 1 by omega]; omega; omega), fun x hx => nx x (by rcases hw59.1 with h | h | h; omega; have := Bg_le (P := paceF Mt Ms Mf Ml nm) (pace_rng hOM) hOH (show x ≤ r59.toInt.toNat by omega); omega; omega)⟩⟩)), by rw [ht]; exact hP, hD⟩, hS.F ht⟩) hS.2.2 dX4_tickOf_79
        · have k34 : (300000000000 : Int) < p0.toInt := l_nle rfl (show ((300000000000 : Int64)).toInt = 300000000000 by decide) (fun h9 => c34 ((lg_cmp_le _ _).mpr h9))
          have na : ∀ x : Nat, x ≤ 1000000 → Bg (paceF Mt Ms Mf Ml nm) Ht Hu nh x * p1.toInt < p0.toInt * 1000000 := fun x hx => by have h1 := hB x hx; have := mul_bnd (show 0 ≤ Bg (paceF Mt Ms Mf Ml nm) Ht Hu nh x ∧ Bg (paceF Mt Ms Mf Ml nm) Ht Hu nh x ≤ 1020000000000 by omega) (show 0 ≤ p1.toInt ∧ p1.toInt ≤ 192000 by omega); omega
          refine lv_iconst (v := (-1)) hx hb dX4_tickOf_37 (by decide) ?_
          exact W.iret (v := (-1)) hx hb hr (fun t ht hW => ⟨⟨(-1), bg, rfl, (by (try dsimp only); exact (Or.inr ⟨by omega, Or.inl ⟨by omega, na⟩⟩)), by rw [ht]; exact hP, hD⟩, hS.F ht⟩) hS.2.2 dX4_tickOf_38
      · have k24 : (p0.toInt : Int) = 0 := l_eq rfl (show ((0 : Int64)).toInt = 0 by decide) ((lg_cmp_eq _ _).mp c24)
        have z9 : Bg (paceF Mt Ms Mf Ml nm) Ht Hu nh 0 * p1.toInt ≥ 0 := Int.mul_nonneg (hB 0 (by omega)).1 (by omega)
        refine lv_iconst (v := 0) hx hb dX4_tickOf_27 (by decide) ?_
        exact W.iret (v := 0) hx hb hr (fun t ht hW => ⟨⟨0, bg, rfl, (by (try dsimp only); exact (Or.inr ⟨by omega, Or.inr ⟨by omega, by omega, by rw [zi0]; show p0.toInt * 1000000 ≤ Bg (paceF Mt Ms Mf Ml nm) Ht Hu nh 0 * p1.toInt; omega, fun x hx => by rw [zi0] at hx; exact absurd hx (Nat.not_lt_zero _)⟩⟩)), by rw [ht]; exact hP, hD⟩, hS.F ht⟩) hS.2.2 dX4_tickOf_28
    · have k15 : (r12.toInt : Int) = 0 := i_eq rfl (show ((0 : Int32)).toInt = 0 by decide) c15
      refine lv_bipush (v := (-2)) hx hb dX4_tickOf_18 (by decide) ?_
      exact W.iret (v := (-2)) hx hb hr (fun t ht hW => ⟨⟨(-2), bg, rfl, (by (try dsimp only); exact (Or.inl ⟨by omega, by omega⟩)), by rw [ht]; exact hP, hD⟩, hS.F ht⟩) hS.2.2 dX4_tickOf_20

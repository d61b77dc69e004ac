set_option maxHeartbeats 1000000 in
set_option maxRecDepth 100000 in
theorem ct_J9_floorDiv_7cf53 (l : Launch) (G : va_G) (cI cL : ClassId) (sz : Nat) (p0 : Int32) (p1 : Int32) (hp1 : 0 < p1.toInt) : Met l yJ9_floorDiv_7cf53 wsJ9_floorDiv_7cf53 ({ frames := 0, cells := 0, slots := 0, locals := 0 }) (va_Pc [.int p0, .int p1] (pre0 G cI cL ([] : va_W) sz)) (va_Qi (fun (r : Int32) (u : Unit) => r.toInt = p0.toInt / p1.toInt) (fun (u : Unit) t => va_P G vwCl ([] : va_W) t.heap ∧ va_D (va_A ([] : va_W) sz) ([] : va_W)) (va_A ([] : va_W) sz)) 0 0 (va_A ([] : va_W) sz) := by
  refine mt_ofF (cc := cJ9_floorDiv_7cf53) (maxL := 3) (ret := (some .int)) (by decide +kernel) rfl ?_
  intro p e s m args below meth c s₁ B hml hv
  obtain ⟨rfl, hsz, hP, hK, hD0, hN⟩ := hv
  have hx := B.exec
  have hb := B.bytes
  have hr := B.returns
  have hts := atoms_spec (ws := wsJ9_floorDiv_7cf53) B.pre
  have hown : s.vm.findClass RJ9 = some m.cls := findClass_of_methodNamed B.named
  have hlocks := B.notSynchronized
  subst hsz
  have hD := hD0.self (sz := s.heap.size)
  generalize hAe : va_A ([] : va_W) s.heap.size = A at hD ⊢
  have hA : ∀ q : Nat, s.heap.size ≤ q → A q := fun q h => by rw [← hAe]; exact Or.inr h
  have hP : va_P G vwCl ([] : va_W) s.heap := hP
  have hl := lv_entry ([.int p0, .int p1]) (n := 3) (Nat.le_of_ble_eq_true rfl)
  rw [lg_entry_eq]
  generalize (lg_sl ([.int p0, .int p1]) ++ List.replicate (3 - (lg_sl ([.int p0, .int p1])).length) Slot.unset).toArray = ls at hl ⊢
  have hl : lv_has ls 3 [(0, .int p0), (1, .int p1)] := hl
  have zi1 : ((1 : Int32)).toInt = 1 := by decide
  refine w_h (A := A) hP (fun H locs hP hS => ?_)
  refine lv_iload_n hx hb dJ9_floorDiv_7cf53_0 rfl (lv_at hl 0 rfl) ?_
  refine lv_iload_n hx hb dJ9_floorDiv_7cf53_1 rfl (lv_at hl 1 rfl) ?_
  refine lv_idiv hx hb dJ9_floorDiv_7cf53_2 (i_ne0 rfl (by omega)) ?_
  refine lv_topi (fun x2 ex2 => ?_)
  have tx2 : x2.toInt = p0.toInt.tdiv p1.toInt := by rw [ex2]; exact ti_tdiv rfl rfl hp1
  refine lv_istore_n (lv' := [(2, .int x2), (0, .int p0), (1, .int p1)]) hx hb dJ9_floorDiv_7cf53_3 rfl hl (by decide) rfl (fun ls hl => ?_)
  refine lv_iload_n hx hb dJ9_floorDiv_7cf53_4 rfl (lv_at hl 1 rfl) ?_
  refine lv_iload_n hx hb dJ9_floorDiv_7cf53_5 rfl (lv_at hl 2 rfl) ?_
  refine lv_ixor hx hb dJ9_floorDiv_7cf53_6 ?_
  refine lv_topi (fun x6 ex6 => ?_)
  have sg := ix_sgn (x := p0) hp1
  rw [← ex6] at sg
  refine lv_if_ge (tgt := 21) hx hb dJ9_floorDiv_7cf53_7 (by decide) (fun c7 => ?_) (fun c7 => ?_)
  · have k7 : (0 : Int) ≤ x6.toInt := i_le (show ((0 : Int32)).toInt = 0 by decide) rfl c7
    have fr : x2.toInt = p0.toInt / p1.toInt := by rw [tx2]; exact Int.tdiv_eq_ediv_of_nonneg (by omega)
    refine lv_iload_n hx hb dJ9_floorDiv_7cf53_21 rfl (lv_at hl 0 rfl) ?_
    exact W.iret (v := x2) hx hb hr (fun t ht hW => ⟨⟨x2, (), rfl, (by (try dsimp only); exact (by omega)), by rw [ht]; exact hP, hD⟩, hS.F ht⟩) hS.2.2 dJ9_floorDiv_7cf53_22
  · have k7 : (x6.toInt : Int) < 0 := i_nle (show ((0 : Int32)).toInt = 0 by decide) rfl c7
    have na : p0.toInt < 0 := by omega
    have f1 : p0.toInt ≤ x2.toInt * p1.toInt ∧ x2.toInt * p1.toInt ≤ 0 ∧ p0.toInt ≤ x2.toInt ∧ x2.toInt ≤ 0 := by rw [tx2]; have := td_neg na hp1; omega
    have rg := ti_rng p0
    refine lv_iload_n hx hb dJ9_floorDiv_7cf53_10 rfl (lv_at hl 0 rfl) ?_
    refine lv_iload_n hx hb dJ9_floorDiv_7cf53_11 rfl (lv_at hl 2 rfl) ?_
    refine lv_imul hx hb dJ9_floorDiv_7cf53_12 ?_
    refine lv_topi (fun x12 ex12 => ?_)
    have tx12 : x12.toInt = x2.toInt * p1.toInt := by rw [ex12]; exact ti_mul rfl rfl (by omega) (by omega)
    refine lv_iload_n hx hb dJ9_floorDiv_7cf53_13 rfl (lv_at hl 1 rfl) ?_
    refine lv_icmp_eq (tgt := 21) hx hb dJ9_floorDiv_7cf53_14 (by decide) (fun c14 => ?_) (fun c14 => ?_)
    · have k14 : (x12.toInt : Int) = p0.toInt := i_eq rfl rfl c14
      have fr : x2.toInt = p0.toInt / p1.toInt := by rw [tx2]; exact fd_hit hp1 (by rw [← tx2]; omega)
      refine lv_iload_n hx hb dJ9_floorDiv_7cf53_21 rfl (lv_at hl 0 rfl) ?_
      exact W.iret (v := x2) hx hb hr (fun t ht hW => ⟨⟨x2, (), rfl, (by (try dsimp only); exact (by omega)), by rw [ht]; exact hP, hD⟩, hS.F ht⟩) hS.2.2 dJ9_floorDiv_7cf53_22
    · have k14 : (x12.toInt : Int) ≠ p0.toInt := i_ne rfl rfl c14
      have fr : x2.toInt - 1 = p0.toInt / p1.toInt := by rw [tx2]; exact fd_off na hp1 (by rw [← tx2]; omega)
      have rn : -2147483647 ≤ x2.toInt := fd_lo na hp1 tx2 (by omega) (by omega)
      refine lv_iload_n hx hb dJ9_floorDiv_7cf53_17 rfl (lv_at hl 0 rfl) ?_
      refine lv_iconst (v := 1) hx hb dJ9_floorDiv_7cf53_18 (by decide) ?_
      refine lv_isub hx hb dJ9_floorDiv_7cf53_19 ?_
      refine lv_topi (fun x19 ex19 => ?_)
      have tx19 : x19.toInt = x2.toInt - 1 := by rw [ex19]; exact ti_sub rfl (show ((1 : Int32)).toInt = 1 by decide) (by omega) (by omega)
      exact W.iret (v := x19) hx hb hr (fun t ht hW => ⟨⟨x19, (), rfl, (by (try dsimp only); exact (by omega)), by rw [ht]; exact hP, hD⟩, hS.F ht⟩) hS.2.2 dJ9_floorDiv_7cf53_20
set_option maxHeartbeats 1000000 in
set_option maxRecDepth 100000 in
theorem ct_J9_floorDiv_f86c9 (l : Launch) (G : va_G) (cI cL : ClassId) (sz : Nat) (p0 : Int64) (p1 : Int64) (hp1 : 0 < p1.toInt) (hp0 : -9223372036854775807 ≤ p0.toInt) : Met l yJ9_floorDiv_f86c9 wsJ9_floorDiv_f86c9 ({ frames := 0, cells := 0, slots := 0, locals := 0 }) (va_Pc [.long p0, .long p1] (pre0 G cI cL ([] : va_W) sz)) (va_Ql (fun (r : Int64) (u : Unit) => r.toInt = p0.toInt / p1.toInt) (fun (u : Unit) t => va_P G vwCl ([] : va_W) t.heap ∧ va_D (va_A ([] : va_W) sz) ([] : va_W)) (va_A ([] : va_W) sz)) 0 0 (va_A ([] : va_W) sz) := by
  refine mt_ofF (cc := cJ9_floorDiv_f86c9) (maxL := 6) (ret := (some .long)) (by decide +kernel) rfl ?_
  intro p e s m args below meth c s₁ B hml hv
  obtain ⟨rfl, hsz, hP, hK, hD0, hN⟩ := hv
  have hx := B.exec
  have hb := B.bytes
  have hr := B.returns
  have hts := atoms_spec (ws := wsJ9_floorDiv_f86c9) B.pre
  have hown : s.vm.findClass RJ9 = some m.cls := findClass_of_methodNamed B.named
  have hlocks := B.notSynchronized
  subst hsz
  have hD := hD0.self (sz := s.heap.size)
  generalize hAe : va_A ([] : va_W) s.heap.size = A at hD ⊢
  have hA : ∀ q : Nat, s.heap.size ≤ q → A q := fun q h => by rw [← hAe]; exact Or.inr h
  have hP : va_P G vwCl ([] : va_W) s.heap := hP
  have hl := lv_entry ([.long p0, .long p1]) (n := 6) (Nat.le_of_ble_eq_true rfl)
  rw [lg_entry_eq]
  generalize (lg_sl ([.long p0, .long p1]) ++ List.replicate (6 - (lg_sl ([.long p0, .long p1])).length) Slot.unset).toArray = ls at hl ⊢
  have hl : lv_has ls 6 [(0, .long p0), (2, .long p1)] := hl
  have zl0 : ((0 : Int64)).toInt = 0 := by decide
  have zl1 : ((1 : Int64)).toInt = 1 := by decide
  refine w_h (A := A) hP (fun H locs hP hS => ?_)
  refine lv_lload_n hx hb dJ9_floorDiv_f86c9_0 rfl (lv_at hl 0 rfl) ?_
  refine lv_lload_n hx hb dJ9_floorDiv_f86c9_1 rfl (lv_at hl 1 rfl) ?_
  refine lv_ldiv hx hb dJ9_floorDiv_f86c9_2 (l_ne0 rfl (by omega)) ?_
  refine lv_topl (fun x2 ex2 => ?_)
  have tx2 : x2.toInt = p0.toInt.tdiv p1.toInt := by rw [ex2]; exact tl_tdiv rfl rfl hp1
  refine lv_lstore (lv' := [(4, .long x2), (0, .long p0), (2, .long p1)]) hx hb dJ9_floorDiv_f86c9_3  hl (by decide) rfl (fun ls hl => ?_)
  refine lv_lload_n hx hb dJ9_floorDiv_f86c9_5 rfl (lv_at hl 1 rfl) ?_
  refine lv_lload_n hx hb dJ9_floorDiv_f86c9_6 rfl (lv_at hl 2 rfl) ?_
  refine lv_lxor hx hb dJ9_floorDiv_f86c9_7 ?_
  refine lv_topl (fun x7 ex7 => ?_)
  have sg := lx_sgn (x := p0) hp1
  rw [← ex7] at sg
  refine lv_lconst (v := 0) hx hb dJ9_floorDiv_f86c9_8 (by decide) ?_
  refine W.lcmp hx hb dJ9_floorDiv_f86c9_9 ?_
  refine lv_if_ge (tgt := 27) hx hb dJ9_floorDiv_f86c9_10 (by decide) (fun c10 => ?_) (fun c10 => ?_)
  · have k10 : (0 : Int) ≤ x7.toInt := l_le (show ((0 : Int64)).toInt = 0 by decide) rfl ((lg_cmp_ge _ _).mp c10)
    have fr : x2.toInt = p0.toInt / p1.toInt := by rw [tx2]; exact Int.tdiv_eq_ediv_of_nonneg (by omega)
    refine lv_lload hx hb dJ9_floorDiv_f86c9_27 (lv_at hl 0 rfl) ?_
    exact W.lret (v := x2) hx hb hr (fun t ht hW => ⟨⟨x2, (), rfl, (by (try dsimp only); exact (by omega)), by rw [ht]; exact hP, hD⟩, hS.F ht⟩) hS.2.2 dJ9_floorDiv_f86c9_29
  · have k10 : (x7.toInt : Int) < 0 := l_nle (show ((0 : Int64)).toInt = 0 by decide) rfl (fun h9 => c10 ((lg_cmp_ge _ _).mpr h9))
    have na : p0.toInt < 0 := by omega
    have f1 : p0.toInt ≤ x2.toInt * p1.toInt ∧ x2.toInt * p1.toInt ≤ 0 ∧ p0.toInt ≤ x2.toInt ∧ x2.toInt ≤ 0 := by rw [tx2]; have := td_neg na hp1; omega
    have rg := tl_rng p0
    refine lv_lload hx hb dJ9_floorDiv_f86c9_13 (lv_at hl 0 rfl) ?_
    refine lv_lload_n hx hb dJ9_floorDiv_f86c9_15 rfl (lv_at hl 2 rfl) ?_
    refine lv_lmul hx hb dJ9_floorDiv_f86c9_16 ?_
    refine lv_topl (fun x16 ex16 => ?_)
    have tx16 : x16.toInt = x2.toInt * p1.toInt := by rw [ex16]; exact tl_mul rfl rfl (by omega) (by omega)
    refine lv_lload_n hx hb dJ9_floorDiv_f86c9_17 rfl (lv_at hl 1 rfl) ?_
    refine W.lcmp hx hb dJ9_floorDiv_f86c9_18 ?_
    refine lv_if_eq (tgt := 27) hx hb dJ9_floorDiv_f86c9_19 (by decide) (fun c19 => ?_) (fun c19 => ?_)
    · have k19 : (x16.toInt : Int) = p0.toInt := l_eq rfl rfl ((lg_cmp_eq _ _).mp c19)
      have fr : x2.toInt = p0.toInt / p1.toInt := by rw [tx2]; exact fd_hit hp1 (by rw [← tx2]; omega)
      refine lv_lload hx hb dJ9_floorDiv_f86c9_27 (lv_at hl 0 rfl) ?_
      exact W.lret (v := x2) hx hb hr (fun t ht hW => ⟨⟨x2, (), rfl, (by (try dsimp only); exact (by omega)), by rw [ht]; exact hP, hD⟩, hS.F ht⟩) hS.2.2 dJ9_floorDiv_f86c9_29
    · have k19 : (x16.toInt : Int) ≠ p0.toInt := l_ne rfl rfl (fun h9 => c19 ((lg_cmp_eq _ _).mpr h9))
      have fr : x2.toInt - 1 = p0.toInt / p1.toInt := by rw [tx2]; exact fd_off na hp1 (by rw [← tx2]; omega)
      refine lv_lload hx hb dJ9_floorDiv_f86c9_22 (lv_at hl 0 rfl) ?_
      refine lv_lconst (v := 1) hx hb dJ9_floorDiv_f86c9_24 (by decide) ?_
      refine lv_lsub hx hb dJ9_floorDiv_f86c9_25 ?_
      refine lv_topl (fun x25 ex25 => ?_)
      have tx25 : x25.toInt = x2.toInt - 1 := by rw [ex25]; exact tl_sub rfl (show ((1 : Int64)).toInt = 1 by decide) (by omega) (by omega)
      exact W.lret (v := x25) hx hb hr (fun t ht hW => ⟨⟨x25, (), rfl, (by (try dsimp only); exact (by omega)), by rw [ht]; exact hP, hD⟩, hS.F ht⟩) hS.2.2 dJ9_floorDiv_f86c9_26
set_option maxHeartbeats 1000000 in
set_option maxRecDepth 100000 in
theorem ct_J9_floorMod_f86c9 (l : Launch) (G : va_G) (cI cL : ClassId) (sz : Nat) (p0 : Int64) (p1 : Int64) (hp1 : 0 < p1.toInt) (hp2 : p1.toInt ≤ 1000000000) : Met l yJ9_floorMod_f86c9 wsJ9_floorMod_f86c9 ({ frames := 0, cells := 0, slots := 0, locals := 0 }) (va_Pc [.long p0, .long p1] (pre0 G cI cL ([] : va_W) sz)) (va_Ql (fun (r : Int64) (u : Unit) => r.toInt = p0.toInt % p1.toInt) (fun (u : Unit) t => va_P G vwCl ([] : va_W) t.heap ∧ va_D (va_A ([] : va_W) sz) ([] : va_W)) (va_A ([] : va_W) sz)) 0 0 (va_A ([] : va_W) sz) := by
  refine mt_ofF (cc := cJ9_floorMod_f86c9) (maxL := 6) (ret := (some .long)) (by decide +kernel) rfl ?_
  intro p e s m args below meth c s₁ B hml hv
  obtain ⟨rfl, hsz, hP, hK, hD0, hN⟩ := hv
  have hx := B.exec
  have hb := B.bytes
  have hr := B.returns
  have hts := atoms_spec (ws := wsJ9_floorMod_f86c9) B.pre
  have hown : s.vm.findClass RJ9 = some m.cls := findClass_of_methodNamed B.named
  have hlocks := B.notSynchronized
  subst hsz
  have hD := hD0.self (sz := s.heap.size)
  generalize hAe : va_A ([] : va_W) s.heap.size = A at hD ⊢
  have hA : ∀ q : Nat, s.heap.size ≤ q → A q := fun q h => by rw [← hAe]; exact Or.inr h
  have hP : va_P G vwCl ([] : va_W) s.heap := hP
  have hl := lv_entry ([.long p0, .long p1]) (n := 6) (Nat.le_of_ble_eq_true rfl)
  rw [lg_entry_eq]
  generalize (lg_sl ([.long p0, .long p1]) ++ List.replicate (6 - (lg_sl ([.long p0, .long p1])).length) Slot.unset).toArray = ls at hl ⊢
  have hl : lv_has ls 6 [(0, .long p0), (2, .long p1)] := hl
  have zl0 : ((0 : Int64)).toInt = 0 := by decide
  refine w_h (A := A) hP (fun H locs hP hS => ?_)
  refine lv_lload_n hx hb dJ9_floorMod_f86c9_0 rfl (lv_at hl 0 rfl) ?_
  refine lv_lload_n hx hb dJ9_floorMod_f86c9_1 rfl (lv_at hl 1 rfl) ?_
  refine lv_lrem hx hb dJ9_floorMod_f86c9_2 (l_ne0 rfl (by omega)) ?_
  refine lv_topl (fun x2 ex2 => ?_)
  have tx2 : x2.toInt = p0.toInt.tmod p1.toInt := by rw [ex2]; exact tl_tmod rfl rfl hp1
  refine lv_lstore (lv' := [(4, .long x2), (0, .long p0), (2, .long p1)]) hx hb dJ9_floorMod_f86c9_3  hl (by decide) rfl (fun ls hl => ?_)
  refine lv_lload_n hx hb dJ9_floorMod_f86c9_5 rfl (lv_at hl 1 rfl) ?_
  refine lv_lload_n hx hb dJ9_floorMod_f86c9_6 rfl (lv_at hl 2 rfl) ?_
  refine lv_lxor hx hb dJ9_floorMod_f86c9_7 ?_
  refine lv_topl (fun x7 ex7 => ?_)
  have sg := lx_sgn (x := p0) hp1
  rw [← ex7] at sg
  refine lv_lconst (v := 0) hx hb dJ9_floorMod_f86c9_8 (by decide) ?_
  refine W.lcmp hx hb dJ9_floorMod_f86c9_9 ?_
  refine lv_if_ge (tgt := 25) hx hb dJ9_floorMod_f86c9_10 (by decide) (fun c10 => ?_) (fun c10 => ?_)
  · have k10 : (0 : Int) ≤ x7.toInt := l_le (show ((0 : Int64)).toInt = 0 by decide) rfl ((lg_cmp_ge _ _).mp c10)
    have fr : x2.toInt = p0.toInt % p1.toInt := by rw [tx2]; exact Int.tmod_eq_emod_of_nonneg (by omega)
    refine lv_lload hx hb dJ9_floorMod_f86c9_25 (lv_at hl 0 rfl) ?_
    exact W.lret (v := x2) hx hb hr (fun t ht hW => ⟨⟨x2, (), rfl, (by (try dsimp only); exact (by omega)), by rw [ht]; exact hP, hD⟩, hS.F ht⟩) hS.2.2 dJ9_floorMod_f86c9_27
  · have k10 : (x7.toInt : Int) < 0 := l_nle (show ((0 : Int64)).toInt = 0 by decide) rfl (fun h9 => c10 ((lg_cmp_ge _ _).mpr h9))
    have na : p0.toInt < 0 := by omega
    have f1 := fm_neg na hp1
    rw [← tx2] at f1
    refine lv_lload hx hb dJ9_floorMod_f86c9_13 (lv_at hl 0 rfl) ?_
    refine lv_lconst (v := 0) hx hb dJ9_floorMod_f86c9_15 (by decide) ?_
    refine W.lcmp hx hb dJ9_floorMod_f86c9_16 ?_
    refine lv_if_eq (tgt := 25) hx hb dJ9_floorMod_f86c9_17 (by decide) (fun c17 => ?_) (fun c17 => ?_)
    · have k17 : (x2.toInt : Int) = 0 := l_eq rfl (show ((0 : Int64)).toInt = 0 by decide) ((lg_cmp_eq _ _).mp c17)
      refine lv_lload hx hb dJ9_floorMod_f86c9_25 (lv_at hl 0 rfl) ?_
      exact W.lret (v := x2) hx hb hr (fun t ht hW => ⟨⟨x2, (), rfl, (by (try dsimp only); exact (by omega)), by rw [ht]; exact hP, hD⟩, hS.F ht⟩) hS.2.2 dJ9_floorMod_f86c9_27
    · have k17 : (x2.toInt : Int) ≠ 0 := l_ne rfl (show ((0 : Int64)).toInt = 0 by decide) (fun h9 => c17 ((lg_cmp_eq _ _).mpr h9))
      refine lv_lload hx hb dJ9_floorMod_f86c9_20 (lv_at hl 0 rfl) ?_
      refine lv_lload_n hx hb dJ9_floorMod_f86c9_22 rfl (lv_at hl 2 rfl) ?_
      refine lv_ladd hx hb dJ9_floorMod_f86c9_23 ?_
      refine lv_topl (fun x23 ex23 => ?_)
      have tx23 : x23.toInt = x2.toInt + p1.toInt := by rw [ex23]; exact tl_add rfl rfl (by omega) (by omega)
      exact W.lret (v := x23) hx hb hr (fun t ht hW => ⟨⟨x23, (), rfl, (by (try dsimp only); exact (by omega)), by rw [ht]; exact hP, hD⟩, hS.F ht⟩) hS.2.2 dJ9_floorMod_f86c9_24
set_option maxHeartbeats 1000000 in
set_option maxRecDepth 100000 in
theorem ct_X3_isWithin (l : Launch) (G : va_G) (cI cL : ClassId) (sz : Nat) (p0 : Int32) (p1 : Int32) (p2 : Int32) : Met l yX3_isWithin wsX3_isWithin ({ frames := 0, cells := 0, slots := 0, locals := 0 }) (va_Pc [.int p0, .int p1, .int p2] (pre0 G cI cL ([] : va_W) sz)) (va_Qi (fun (r : Int32) (u : Unit) => (r.toInt = 1 ∧ p1.toInt ≤ p0.toInt ∧ p0.toInt ≤ p2.toInt) ∨ (r.toInt = 0 ∧ (p0.toInt < p1.toInt ∨ p2.toInt < p0.toInt))) (fun (u : Unit) t => va_P G vwCl ([] : va_W) t.heap ∧ va_D (va_A ([] : va_W) sz) ([] : va_W)) (va_A ([] : va_W) sz)) 0 0 (va_A ([] : va_W) sz) := by
  refine Met.ofW (cc := cX3_isWithin) (maxL := 3) (ret := (some .boolean)) (by decide) rfl ?_
  intro p e s m args below meth c s₁ B hml hv
  obtain ⟨rfl, hsz, hP, hK, hD0, hN⟩ := hv
  have hx := B.exec
  have hb := B.bytes
  have hr := B.returns
  have hts := atoms_spec (ws := wsX3_isWithin) B.pre
  have hown : s.vm.findClass RX3 = some m.cls := findClass_of_methodNamed B.named
  have hlocks := B.notSynchronized
  subst hsz
  have hD := hD0.self (sz := s.heap.size)
  generalize hAe : va_A ([] : va_W) s.heap.size = A at hD ⊢
  have hA : ∀ q : Nat, s.heap.size ≤ q → A q := fun q h => by rw [← hAe]; exact Or.inr h
  have hP : va_P G vwCl ([] : va_W) s.heap := hP
  have hl := lv_entry ([.int p0, .int p1, .int p2]) (n := 3) (Nat.le_of_ble_eq_true rfl)
  rw [lg_entry_eq]
  generalize (lg_sl ([.int p0, .int p1, .int p2]) ++ List.replicate (3 - (lg_sl ([.int p0, .int p1, .int p2])).length) Slot.unset).toArray = ls at hl ⊢
  have hl : lv_has ls 3 [(0, .int p0), (1, .int p1), (2, .int p2)] := hl
  have zi0 : ((0 : Int32)).toInt = 0 := by decide
  have zi1 : ((1 : Int32)).toInt = 1 := by decide
  refine w_h (A := A) hP (fun H locs hP hS => ?_)
  refine lv_iload_n hx hb dX3_isWithin_0 rfl (lv_at hl 0 rfl) ?_
  refine lv_iload_n hx hb dX3_isWithin_1 rfl (lv_at hl 1 rfl) ?_
  refine lv_icmp_lt (tgt := 14) hx hb dX3_isWithin_2 (by decide) (fun c2 => ?_) (fun c2 => ?_)
  · have k2 : (p0.toInt : Int) < p1.toInt := i_lt rfl rfl c2
    refine lv_iconst (v := 0) hx hb dX3_isWithin_14 (by decide) ?_
    exact W.zret (v := 0) hx hb hr (by decide) (fun t ht hW => ⟨⟨0, (), rfl, (by (try dsimp only); exact (by have e0 : ((0 : Int32)).toInt = 0 := (by decide); have e1 : ((1 : Int32)).toInt = 1 := (by decide); omega)), by rw [ht]; exact hP, hD⟩, hS.F ht⟩) hS.2.2 dX3_isWithin_15
  · have k2 : (p1.toInt : Int) ≤ p0.toInt := i_nlt rfl rfl c2
    refine lv_iload_n hx hb dX3_isWithin_5 rfl (lv_at hl 0 rfl) ?_
    refine lv_iload_n hx hb dX3_isWithin_6 rfl (lv_at hl 2 rfl) ?_
    refine lv_icmp_gt (tgt := 14) hx hb dX3_isWithin_7 (by decide) (fun c7 => ?_) (fun c7 => ?_)
    · have k7 : (p2.toInt : Int) < p0.toInt := i_lt rfl rfl c7
      refine lv_iconst (v := 0) hx hb dX3_isWithin_14 (by decide) ?_
      exact W.zret (v := 0) hx hb hr (by decide) (fun t ht hW => ⟨⟨0, (), rfl, (by (try dsimp only); exact (by have e0 : ((0 : Int32)).toInt = 0 := (by decide); have e1 : ((1 : Int32)).toInt = 1 := (by decide); omega)), by rw [ht]; exact hP, hD⟩, hS.F ht⟩) hS.2.2 dX3_isWithin_15
    · have k7 : (p0.toInt : Int) ≤ p2.toInt := i_nlt rfl rfl c7
      refine lv_iconst (v := 1) hx hb dX3_isWithin_10 (by decide) ?_
      refine lv_goto (tgt := 15) hx hb dX3_isWithin_11 (by decide) ?_
      exact W.zret (v := 1) hx hb hr (by decide) (fun t ht hW => ⟨⟨1, (), rfl, (by (try dsimp only); exact (by have e0 : ((0 : Int32)).toInt = 0 := (by decide); have e1 : ((1 : Int32)).toInt = 1 := (by decide); omega)), by rw [ht]; exact hP, hD⟩, hS.F ht⟩) hS.2.2 dX3_isWithin_15
set_option maxHeartbeats 1000000 in
set_option maxRecDepth 100000 in
theorem ct_X4_in (l : Launch) (G : va_G) (cI cL : ClassId) (sz : Nat) (p0 : Int64) (p1 : Int64) (p2 : Int64) : Met l yX4_in wsX4_in ({ frames := 0, cells := 0, slots := 0, locals := 0 }) (va_Pc [.long p0, .long p1, .long p2] (pre0 G cI cL ([] : va_W) sz)) (va_Qi (fun (r : Int32) (u : Unit) => (r.toInt = 1 ∧ p1.toInt ≤ p0.toInt ∧ p0.toInt ≤ p2.toInt) ∨ (r.toInt = 0 ∧ (p0.toInt < p1.toInt ∨ p2.toInt < p0.toInt))) (fun (u : Unit) t => va_P G vwCl ([] : va_W) t.heap ∧ va_D (va_A ([] : va_W) sz) ([] : va_W)) (va_A ([] : va_W) sz)) 0 0 (va_A ([] : va_W) sz) := by
  refine Met.ofW (cc := cX4_in) (maxL := 6) (ret := (some .boolean)) (by decide) rfl ?_
  intro p e s m args below meth c s₁ B hml hv
  obtain ⟨rfl, hsz, hP, hK, hD0, hN⟩ := hv
  have hx := B.exec
  have hb := B.bytes
  have hr := B.returns
  have hts := atoms_spec (ws := wsX4_in) B.pre
  have hown : s.vm.findClass RX4 = some m.cls := findClass_of_methodNamed B.named
  have hlocks := B.notSynchronized
  subst hsz
  have hD := hD0.self (sz := s.heap.size)
  generalize hAe : va_A ([] : va_W) s.heap.size = A at hD ⊢
  have hA : ∀ q : Nat, s.heap.size ≤ q → A q := fun q h => by rw [← hAe]; exact Or.inr h
  have hP : va_P G vwCl ([] : va_W) s.heap := hP
  have hl := lv_entry ([.long p0, .long p1, .long p2]) (n := 6) (Nat.le_of_ble_eq_true rfl)
  rw [lg_entry_eq]
  generalize (lg_sl ([.long p0, .long p1, .long p2]) ++ List.replicate (6 - (lg_sl ([.long p0, .long p1, .long p2])).length) Slot.unset).toArray = ls at hl ⊢
  have hl : lv_has ls 6 [(0, .long p0), (2, .long p1), (4, .long p2)] := hl
  have zi0 : ((0 : Int32)).toInt = 0 := by decide
  have zi1 : ((1 : Int32)).toInt = 1 := by decide
  refine w_h (A := A) hP (fun H locs hP hS => ?_)
  refine lv_lload_n hx hb dX4_in_0 rfl (lv_at hl 0 rfl) ?_
  refine lv_lload_n hx hb dX4_in_1 rfl (lv_at hl 1 rfl) ?_
  refine W.lcmp hx hb dX4_in_2 ?_
  refine lv_if_lt (tgt := 17) hx hb dX4_in_3 (by decide) (fun c3 => ?_) (fun c3 => ?_)
  · have k3 : (p0.toInt : Int) < p1.toInt := l_lt rfl rfl ((lg_cmp_lt _ _).mp c3)
    refine lv_iconst (v := 0) hx hb dX4_in_17 (by decide) ?_
    exact W.zret (v := 0) hx hb hr (by decide) (fun t ht hW => ⟨⟨0, (), rfl, (by (try dsimp only); exact (by have e0 : ((0 : Int32)).toInt = 0 := (by decide); have e1 : ((1 : Int32)).toInt = 1 := (by decide); omega)), by rw [ht]; exact hP, hD⟩, hS.F ht⟩) hS.2.2 dX4_in_18
  · have k3 : (p1.toInt : Int) ≤ p0.toInt := l_nlt rfl rfl (fun h9 => c3 ((lg_cmp_lt _ _).mpr h9))
    refine lv_lload_n hx hb dX4_in_6 rfl (lv_at hl 0 rfl) ?_
    refine lv_lload hx hb dX4_in_7 (lv_at hl 2 rfl) ?_
    refine W.lcmp hx hb dX4_in_9 ?_
    refine lv_if_gt (tgt := 17) hx hb dX4_in_10 (by decide) (fun c10 => ?_) (fun c10 => ?_)
    · have k10 : (p2.toInt : Int) < p0.toInt := l_lt rfl rfl ((lg_cmp_gt _ _).mp c10)
      refine lv_iconst (v := 0) hx hb dX4_in_17 (by decide) ?_
      exact W.zret (v := 0) hx hb hr (by decide) (fun t ht hW => ⟨⟨0, (), rfl, (by (try dsimp only); exact (by have e0 : ((0 : Int32)).toInt = 0 := (by decide); have e1 : ((1 : Int32)).toInt = 1 := (by decide); omega)), by rw [ht]; exact hP, hD⟩, hS.F ht⟩) hS.2.2 dX4_in_18
    · have k10 : (p0.toInt : Int) ≤ p2.toInt := l_nlt rfl rfl (fun h9 => c10 ((lg_cmp_gt _ _).mpr h9))
      refine lv_iconst (v := 1) hx hb dX4_in_13 (by decide) ?_
      refine lv_goto (tgt := 18) hx hb dX4_in_14 (by decide) ?_
      exact W.zret (v := 1) hx hb hr (by decide) (fun t ht hW => ⟨⟨1, (), rfl, (by (try dsimp only); exact (by have e0 : ((0 : Int32)).toInt = 0 := (by decide); have e1 : ((1 : Int32)).toInt = 1 := (by decide); omega)), by rw [ht]; exact hP, hD⟩, hS.F ht⟩) hS.2.2 dX4_in_18

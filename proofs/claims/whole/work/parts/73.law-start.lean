set_option maxHeartbeats 1000000 in
set_option maxRecDepth 100000 in
theorem whole_start {p : Program} {e : Env} {s : State} {m : MethodId} {below : List Frame} {meth : Method} {c : Code} (l : Launch) {b L : Nat} {xs : Nat → Int32} (hL : L ≤ 2560) (C0 : lw_At p s m meth c b L xs) : W p l e room_1 s m #[Value.ref b] below meth c s.heap [] 0 0 (lw_Z below #[Value.ref b] s) (entryFrame m ([Value.ref b] : List Value).toArray 4) := by
  obtain ⟨hx, hb, hr, hml, hown, hts0, hX, hbl, hlocks, hgv⟩ := id C0
  have hts : ∀ w ∈ wsL_law, w.before #[Value.ref b] s = true := fun w h => hts0 w (wsL_law_in w h)
  have hA : ∀ q : Nat, s.heap.size ≤ q → (fun q : Nat => s.heap.size ≤ q) q := fun _ h => h
  obtain ⟨c0, iS0, hKn0⟩ := u_known (C := RX0) (T := TX0) (N := 3) (n := 3) hts inlX0 (hts (.instantiable RX0 3) (by decide +kernel))
  obtain ⟨c1, iS1, hKn1⟩ := u_known (C := RX1) (T := TX1) (N := 6) (n := 6) hts inlX1 (hts (.instantiable RX1 6) (by decide +kernel))
  obtain ⟨c2, iS2, hKn2⟩ := u_known (C := RX2) (T := TX2) (N := 2) (n := 2) hts inlX2 (hts (.instantiable RX2 2) (by decide +kernel))
  obtain ⟨c3, iS3, hKn3⟩ := u_known (C := RX3) (T := TX3) (N := 3) (n := 3) hts inlX3 (hts (.instantiable RX3 3) (by decide +kernel))
  obtain ⟨c4, iS4, hKn4⟩ := u_known (C := RX4) (T := TX4) (N := 11) (n := 11) hts inlX4 (hts (.instantiable RX4 11) (by decide +kernel))
  obtain ⟨G, hKc⟩ : ∃ G : va_G, ∀ (k : Nat) (q : vw_C), vwCl[k]? = some q → u_Kn s q.1 q.2.1 q.2.2 (G.1 k) (G.2 k) := by
    refine ⟨(fun k => if k = 0 then c0 else if k = 1 then c1 else if k = 2 then c2 else if k = 3 then c3 else c4, fun k => if k = 0 then iS0 else if k = 1 then iS1 else if k = 2 then iS2 else if k = 3 then iS3 else iS4), ?_⟩
    intro k q hq
    match k, hq with
    | 0, hq => cases hq; exact hKn0
    | 1, hq => cases hq; exact hKn1
    | 2, hq => cases hq; exact hKn2
    | 3, hq => cases hq; exact hKn3
    | 4, hq => cases hq; exact hKn4
    | k + 5, hq => simp [vwCl] at hq
  obtain ⟨cI, kI, compI, hI1, hI2, hI3⟩ := Cond.arrayClass_spec (hts (.arrayClass .int) (by decide +kernel))
  obtain ⟨cL, kL, compL, hL1, hL2, hL3⟩ := Cond.arrayClass_spec (hts (.arrayClass .long) (by decide +kernel))
  have hK : va_K G vwCl (ty2 cI cL) s := by
    refine ⟨hKc, fun k q h => ?_⟩
    match k, h with
    | 0, h => cases h; exact ⟨fun n z => ⟨fun k h => (by cases h), kI, hI2, compI, hI3⟩, hI1⟩
    | 1, h => cases h; exact ⟨fun n z => ⟨fun k h => (by cases h), kL, hL2, compL, hL3⟩, hL1⟩
    | k + 2, h => simp [ty2] at h
  have hN : nestw s := ⟨⟨va_Nw.of rfl (hts0 (.methodLinkNest RX3 9 yX1_init RX3) (List.mem_of_getElem? (i := 39) (by decide +kernel))), va_Nw.of rfl (hts0 (.methodLinkNest RX3 18 yX0_init RX3) (List.mem_of_getElem? (i := 67) (by decide +kernel))), va_Nw.of rfl (hts0 (.methodLinkNest RX3 25 yX2_init RX3) (List.mem_of_getElem? (i := 84) (by decide +kernel))), va_Nw.of rfl (hts0 (.methodLinkNest RX1 66 yX3_sumOfQuotients RX3) (List.mem_of_getElem? (i := 151) (by decide +kernel)))⟩, va_Nw.of rfl (hts0 (.fieldLinkNest RX3 66 RX1 "size" "I" RX3) (List.mem_of_getElem? (i := 49) (by decide +kernel))), va_Nw.of rfl (hts0 (.fieldLinkNest RX3 70 RX0 "size" "I" RX3) (List.mem_of_getElem? (i := 74) (by decide +kernel))), va_Nw.of rfl (hts0 (.fieldLinkNest RX3 71 RX2 "size" "I" RX3) (List.mem_of_getElem? (i := 90) (by decide +kernel)))⟩
  have hP : va_P G vwCl ([] : va_W) s.heap := fun k q h => by simp at h
  have hD : va_D (fun q : Nat => s.heap.size ≤ q) ([] : va_W) := ⟨fun i j p q h => by simp at h, fun k q h => by simp at h⟩
  have hiX3 := inlX3
  have hiX4 := inlX4
  have hl := lv_entry ([.ref b]) (n := 4) (Nat.le_of_ble_eq_true rfl)
  rw [lg_entry_eq]
  generalize (lg_sl ([.ref b]) ++ List.replicate (4 - (lg_sl ([.ref b])).length) Slot.unset).toArray = ls at hl ⊢
  have hl : lv_has ls 4 [(0, .ref b)] := hl
  refine w_h (A := fun q : Nat => s.heap.size ≤ q) hP (fun H locs hP hS => ?_)
  refine va_new (ci := 3) (fs := [.null, .null, .null]) (C := RX3) (T := TX3) (N := 3) hx hb hts hiX3 tyX3 tyX3_ok hown (hts (.classLink RL 7 RX3) (by decide +kernel)) (hts (.instantiable RX3 3) (by decide +kernel)) (hts (.initialized RX3) (by decide +kernel)) hK hP hD hS hA rfl (fun j hj => by rcases (show j = 0 ∨ j = 1 ∨ j = 2 by omega) with rfl | rfl | rfl <;> rfl) (Nat.le_of_ble_eq_true rfl) (Nat.le_of_ble_eq_true rfl) dL_law_0 (fun q0 H hP hD hS => ?_)
  have hP : va_P G vwCl [(q0, .inr (3, [.null, .null, .null]))] H := hP
  have hD : va_D (fun q : Nat => s.heap.size ≤ q) [(q0, .inr (3, [.null, .null, .null]))] := hD
  refine W.widen (k := 1) (n := 3) (by decide) (by decide) ?_
  refine lv_dup hx hb dL_law_3 rfl ?_
  have hPc := hP.sub (ws' := [(q0, .inr (3, [.null, .null, .null]))]) [0] rfl
  have hDc := hD.sub (ws' := [(q0, .inr (3, [.null, .null, .null]))]) [0] (by decide) rfl
  have hcc := (ct_X3_init l G cI cL H.size q0)
  have hFc := va_free (wc := [(q0, .inr (3, [.null, .null, .null]))]) hD hS hA [0] rfl
  refine va_callv (va_runI (As := []) (rest := [.ref q0]) ⟨hx, hb, hml, hown, hts⟩ hcc (cwI 0 hts gL_law_X3_init rfl rfl rfl (hts (.initialized RX3) (by decide +kernel)) (hts (.methodLink RL 9 yX3_init) (by decide +kernel)) (hts (.instanceMethod yX3_init) (by decide +kernel)) rfl (by decide +kernel) ⟨Nat.le_of_ble_eq_true rfl, Nat.le_of_ble_eq_true rfl⟩) ⟨pre_blind, pre_pass hK hN hPc hDc⟩ rfl rfl hl.1 rfl (lv_room (Nat.le_of_ble_eq_true rfl)) dL_law_4 ⟨Nat.le_of_ble_eq_true rfl, Nat.le_of_ble_eq_true rfl⟩) hS (fun q _ h => hFc q h) hFc (fun u H1t H locs ht hvm hw hB hz1 hk1 hS => ?_)
  obtain ⟨qm_4, qm1_4, qm2_4, qm3_4, qm4_4, qm5_4, qh_4, qh1_4, qh2_4, qt_4, qt1_4⟩ := u
  obtain ⟨hP1, hD1⟩ := hB
  rw [ht] at hP1
  try dsimp only at hP1 hD1
  obtain ⟨hP, hD⟩ := va_join (wr := ([] : va_W)) (w1 := [(q0, .inr (3, [.ref qm_4, .ref qh_4, .ref qt_4])), (qm_4, .inr (1, [.ref qm1_4, .ref qm2_4, .ref qm3_4, .ref qm4_4, .ref qm5_4, .int 0])), (qm1_4, .inl (cI, 40, .inl (fun _ => 0))), (qm2_4, .inl (cI, 40, .inl (fun _ => 0))), (qm3_4, .inl (cI, 40, .inl (fun _ => 0))), (qm4_4, .inl (cI, 40, .inl (fun _ => 0))), (qm5_4, .inl (cL, 40, .inr (.inl (fun _ => 0)))), (qh_4, .inr (0, [.ref qh1_4, .ref qh2_4, .int 0])), (qh1_4, .inl (cI, 20, .inl (fun _ => 0))), (qh2_4, .inl (cI, 20, .inl (fun _ => 0))), (qt_4, .inr (2, [.ref qt1_4, .int 0])), (qt1_4, .inl (cL, 40, .inr (.inl (fun _ => 0))))]) hP hD [0] [] rfl rfl (by decide) (by decide) hk1 hFc hP1 hD1
  have hP : va_P G vwCl [(q0, .inr (3, [.ref qm_4, .ref qh_4, .ref qt_4])), (qm_4, .inr (1, [.ref qm1_4, .ref qm2_4, .ref qm3_4, .ref qm4_4, .ref qm5_4, .int 0])), (qm1_4, .inl (cI, 40, .inl (fun _ => 0))), (qm2_4, .inl (cI, 40, .inl (fun _ => 0))), (qm3_4, .inl (cI, 40, .inl (fun _ => 0))), (qm4_4, .inl (cI, 40, .inl (fun _ => 0))), (qm5_4, .inl (cL, 40, .inr (.inl (fun _ => 0)))), (qh_4, .inr (0, [.ref qh1_4, .ref qh2_4, .int 0])), (qh1_4, .inl (cI, 20, .inl (fun _ => 0))), (qh2_4, .inl (cI, 20, .inl (fun _ => 0))), (qt_4, .inr (2, [.ref qt1_4, .int 0])), (qt1_4, .inl (cL, 40, .inr (.inl (fun _ => 0))))] H := hP
  have hD : va_D (fun q : Nat => s.heap.size ≤ q) [(q0, .inr (3, [.ref qm_4, .ref qh_4, .ref qt_4])), (qm_4, .inr (1, [.ref qm1_4, .ref qm2_4, .ref qm3_4, .ref qm4_4, .ref qm5_4, .int 0])), (qm1_4, .inl (cI, 40, .inl (fun _ => 0))), (qm2_4, .inl (cI, 40, .inl (fun _ => 0))), (qm3_4, .inl (cI, 40, .inl (fun _ => 0))), (qm4_4, .inl (cI, 40, .inl (fun _ => 0))), (qm5_4, .inl (cL, 40, .inr (.inl (fun _ => 0)))), (qh_4, .inr (0, [.ref qh1_4, .ref qh2_4, .int 0])), (qh1_4, .inl (cI, 20, .inl (fun _ => 0))), (qh2_4, .inl (cI, 20, .inl (fun _ => 0))), (qt_4, .inr (2, [.ref qt1_4, .int 0])), (qt1_4, .inl (cL, 40, .inr (.inl (fun _ => 0))))] := hD
  refine W.widen (k := 12) (n := 294) (by decide) (by decide) ?_
  refine lv_astore_n (lv' := [(1, .ref q0), (0, .ref b)]) hx hb dL_law_7 rfl hl (by decide) rfl (fun ls hl => ?_)
  refine va_new (ci := 4) (fs := [.null, .null, .null, .null, .int 0, .null, .null, .int 0, .null, .int 0, .long 0]) (C := RX4) (T := TX4) (N := 11) hx hb hts hiX4 tyX4 tyX4_ok hown (hts (.classLink RL 10 RX4) (by decide +kernel)) (hts (.instantiable RX4 11) (by decide +kernel)) (hts (.initialized RX4) (by decide +kernel)) hK hP hD hS hA rfl (fun j hj => by rcases (show j = 0 ∨ j = 1 ∨ j = 2 ∨ j = 3 ∨ j = 4 ∨ j = 5 ∨ j = 6 ∨ j = 7 ∨ j = 8 ∨ j = 9 ∨ j = 10 by omega) with rfl | rfl | rfl | rfl | rfl | rfl | rfl | rfl | rfl | rfl | rfl <;> rfl) (Nat.le_of_ble_eq_true rfl) (Nat.le_of_ble_eq_true rfl) dL_law_8 (fun q8 H hP hD hS => ?_)
  have hP : va_P G vwCl [(q0, .inr (3, [.ref qm_4, .ref qh_4, .ref qt_4])), (qm_4, .inr (1, [.ref qm1_4, .ref qm2_4, .ref qm3_4, .ref qm4_4, .ref qm5_4, .int 0])), (qm1_4, .inl (cI, 40, .inl (fun _ => 0))), (qm2_4, .inl (cI, 40, .inl (fun _ => 0))), (qm3_4, .inl (cI, 40, .inl (fun _ => 0))), (qm4_4, .inl (cI, 40, .inl (fun _ => 0))), (qm5_4, .inl (cL, 40, .inr (.inl (fun _ => 0)))), (qh_4, .inr (0, [.ref qh1_4, .ref qh2_4, .int 0])), (qh1_4, .inl (cI, 20, .inl (fun _ => 0))), (qh2_4, .inl (cI, 20, .inl (fun _ => 0))), (qt_4, .inr (2, [.ref qt1_4, .int 0])), (qt1_4, .inl (cL, 40, .inr (.inl (fun _ => 0)))), (q8, .inr (4, [.null, .null, .null, .null, .int 0, .null, .null, .int 0, .null, .int 0, .long 0]))] H := hP
  have hD : va_D (fun q : Nat => s.heap.size ≤ q) [(q0, .inr (3, [.ref qm_4, .ref qh_4, .ref qt_4])), (qm_4, .inr (1, [.ref qm1_4, .ref qm2_4, .ref qm3_4, .ref qm4_4, .ref qm5_4, .int 0])), (qm1_4, .inl (cI, 40, .inl (fun _ => 0))), (qm2_4, .inl (cI, 40, .inl (fun _ => 0))), (qm3_4, .inl (cI, 40, .inl (fun _ => 0))), (qm4_4, .inl (cI, 40, .inl (fun _ => 0))), (qm5_4, .inl (cL, 40, .inr (.inl (fun _ => 0)))), (qh_4, .inr (0, [.ref qh1_4, .ref qh2_4, .int 0])), (qh1_4, .inl (cI, 20, .inl (fun _ => 0))), (qh2_4, .inl (cI, 20, .inl (fun _ => 0))), (qt_4, .inr (2, [.ref qt1_4, .int 0])), (qt1_4, .inl (cL, 40, .inr (.inl (fun _ => 0)))), (q8, .inr (4, [.null, .null, .null, .null, .int 0, .null, .null, .int 0, .null, .int 0, .long 0]))] := hD
  refine W.widen (k := 13) (n := 305) (by decide) (by decide) ?_
  refine lv_dup hx hb dL_law_11 rfl ?_
  have hPc := hP.sub (ws' := [(q8, .inr (4, [.null, .null, .null, .null, .int 0, .null, .null, .int 0, .null, .int 0, .long 0]))]) [12] rfl
  have hDc := hD.sub (ws' := [(q8, .inr (4, [.null, .null, .null, .null, .int 0, .null, .null, .int 0, .null, .int 0, .long 0]))]) [12] (by decide) rfl
  have hcc := (ct_X4_init l G cI cL H.size q8)
  have hFc := va_free (wc := [(q8, .inr (4, [.null, .null, .null, .null, .int 0, .null, .null, .int 0, .null, .int 0, .long 0]))]) hD hS hA [12] rfl
  refine va_callv (va_runI (As := []) (rest := [.ref q8]) ⟨hx, hb, hml, hown, hts⟩ hcc (cwI 0 hts gL_law_X4_init rfl rfl rfl (hts (.initialized RX4) (by decide +kernel)) (hts (.methodLink RL 12 yX4_init) (by decide +kernel)) (hts (.instanceMethod yX4_init) (by decide +kernel)) rfl (by decide +kernel) ⟨Nat.le_of_ble_eq_true rfl, Nat.le_of_ble_eq_true rfl⟩) ⟨pre_blind, pre_pass hK hN hPc hDc⟩ rfl rfl hl.1 rfl (lv_room (Nat.le_of_ble_eq_true rfl)) dL_law_12 ⟨Nat.le_of_ble_eq_true rfl, Nat.le_of_ble_eq_true rfl⟩) hS (fun q _ h => hFc q h) hFc (fun u H1t H locs ht hvm hw hB hz1 hk1 hS => ?_)
  obtain ⟨qy1_12, qy2_12, qy3_12, qy4_12, qy5_12, qy6_12, qy7_12⟩ := u
  obtain ⟨hP1, hD1⟩ := hB
  rw [ht] at hP1
  try dsimp only at hP1 hD1
  obtain ⟨hP, hD⟩ := va_join (wr := [(q0, .inr (3, [.ref qm_4, .ref qh_4, .ref qt_4])), (qm_4, .inr (1, [.ref qm1_4, .ref qm2_4, .ref qm3_4, .ref qm4_4, .ref qm5_4, .int 0])), (qm1_4, .inl (cI, 40, .inl (fun _ => 0))), (qm2_4, .inl (cI, 40, .inl (fun _ => 0))), (qm3_4, .inl (cI, 40, .inl (fun _ => 0))), (qm4_4, .inl (cI, 40, .inl (fun _ => 0))), (qm5_4, .inl (cL, 40, .inr (.inl (fun _ => 0)))), (qh_4, .inr (0, [.ref qh1_4, .ref qh2_4, .int 0])), (qh1_4, .inl (cI, 20, .inl (fun _ => 0))), (qh2_4, .inl (cI, 20, .inl (fun _ => 0))), (qt_4, .inr (2, [.ref qt1_4, .int 0])), (qt1_4, .inl (cL, 40, .inr (.inl (fun _ => 0))))]) (w1 := [(q8, .inr (4, [.ref qy1_12, .ref qy2_12, .ref qy3_12, .ref qy4_12, .int 0, .ref qy5_12, .ref qy6_12, .int 0, .ref qy7_12, .int 0, .long 0])), (qy1_12, .inl (cI, 40, .inl (fun _ => 0))), (qy2_12, .inl (cI, 40, .inl (fun _ => 0))), (qy3_12, .inl (cI, 40, .inl (fun _ => 0))), (qy4_12, .inl (cI, 40, .inl (fun _ => 0))), (qy5_12, .inl (cI, 20, .inl (fun _ => 0))), (qy6_12, .inl (cI, 20, .inl (fun _ => 0))), (qy7_12, .inl (cL, 40, .inr (.inl (fun _ => 0))))]) hP hD [12] [0, 1, 2, 3, 4, 5, 6, 7, 8, 9, 10, 11] rfl rfl (by decide) (by decide) hk1 hFc hP1 hD1
  have hP : va_P G vwCl [(q0, .inr (3, [.ref qm_4, .ref qh_4, .ref qt_4])), (qm_4, .inr (1, [.ref qm1_4, .ref qm2_4, .ref qm3_4, .ref qm4_4, .ref qm5_4, .int 0])), (qm1_4, .inl (cI, 40, .inl (fun _ => 0))), (qm2_4, .inl (cI, 40, .inl (fun _ => 0))), (qm3_4, .inl (cI, 40, .inl (fun _ => 0))), (qm4_4, .inl (cI, 40, .inl (fun _ => 0))), (qm5_4, .inl (cL, 40, .inr (.inl (fun _ => 0)))), (qh_4, .inr (0, [.ref qh1_4, .ref qh2_4, .int 0])), (qh1_4, .inl (cI, 20, .inl (fun _ => 0))), (qh2_4, .inl (cI, 20, .inl (fun _ => 0))), (qt_4, .inr (2, [.ref qt1_4, .int 0])), (qt1_4, .inl (cL, 40, .inr (.inl (fun _ => 0)))), (q8, .inr (4, [.ref qy1_12, .ref qy2_12, .ref qy3_12, .ref qy4_12, .int 0, .ref qy5_12, .ref qy6_12, .int 0, .ref qy7_12, .int 0, .long 0])), (qy1_12, .inl (cI, 40, .inl (fun _ => 0))), (qy2_12, .inl (cI, 40, .inl (fun _ => 0))), (qy3_12, .inl (cI, 40, .inl (fun _ => 0))), (qy4_12, .inl (cI, 40, .inl (fun _ => 0))), (qy5_12, .inl (cI, 20, .inl (fun _ => 0))), (qy6_12, .inl (cI, 20, .inl (fun _ => 0))), (qy7_12, .inl (cL, 40, .inr (.inl (fun _ => 0))))] H := hP
  have hD : va_D (fun q : Nat => s.heap.size ≤ q) [(q0, .inr (3, [.ref qm_4, .ref qh_4, .ref qt_4])), (qm_4, .inr (1, [.ref qm1_4, .ref qm2_4, .ref qm3_4, .ref qm4_4, .ref qm5_4, .int 0])), (qm1_4, .inl (cI, 40, .inl (fun _ => 0))), (qm2_4, .inl (cI, 40, .inl (fun _ => 0))), (qm3_4, .inl (cI, 40, .inl (fun _ => 0))), (qm4_4, .inl (cI, 40, .inl (fun _ => 0))), (qm5_4, .inl (cL, 40, .inr (.inl (fun _ => 0)))), (qh_4, .inr (0, [.ref qh1_4, .ref qh2_4, .int 0])), (qh1_4, .inl (cI, 20, .inl (fun _ => 0))), (qh2_4, .inl (cI, 20, .inl (fun _ => 0))), (qt_4, .inr (2, [.ref qt1_4, .int 0])), (qt1_4, .inl (cL, 40, .inr (.inl (fun _ => 0)))), (q8, .inr (4, [.ref qy1_12, .ref qy2_12, .ref qy3_12, .ref qy4_12, .int 0, .ref qy5_12, .ref qy6_12, .int 0, .ref qy7_12, .int 0, .long 0])), (qy1_12, .inl (cI, 40, .inl (fun _ => 0))), (qy2_12, .inl (cI, 40, .inl (fun _ => 0))), (qy3_12, .inl (cI, 40, .inl (fun _ => 0))), (qy4_12, .inl (cI, 40, .inl (fun _ => 0))), (qy5_12, .inl (cI, 20, .inl (fun _ => 0))), (qy6_12, .inl (cI, 20, .inl (fun _ => 0))), (qy7_12, .inl (cL, 40, .inr (.inl (fun _ => 0))))] := hD
  refine W.widen (k := 20) (n := 545) (by decide) (by decide) ?_
  refine lv_astore_n (lv' := [(2, .ref q8), (1, .ref q0), (0, .ref b)]) hx hb dL_law_15 rfl hl (by decide) rfl (fun ls hl => ?_)
  refine lv_iconst (v := 0) hx hb dL_law_16 (by decide) ?_
  refine lv_istore_n (lv' := [(3, .int 0), (2, .ref q8), (1, .ref q0), (0, .ref b)]) hx hb dL_law_17 rfl hl (by decide) rfl (fun ls hl => ?_)
  exact law_loop C0 ⟨hx, hb, hml, hown, hts, hX, hbl, hK, hN, hL⟩ 0 ls H locs ⟨⟨by decide, by have : ((0 : Int32)).toInt = 0 := by decide
                                                                                              omega⟩, 0, (fun _ => 0), (fun _ => 0), (fun _ => 0), (fun _ => 0), (fun _ => 0), 0, (fun _ => 0), (fun _ => 0), 0, (fun _ => 0), 0, (fun _ => 0), (fun _ => 0), (fun _ => 0), (fun _ => 0), 0, (fun _ => 0), (fun _ => 0), 0, (fun _ => 0), 0, 0, 0, 0, hP, hD, hS, lv_sub hl [3, 2, 1, 0] rfl, rfl, okM_0, srt_0, okU_0, rfl, okH_0, rfl, okT_0, rfl, okM_0, sameM_0, rfl, rfl, rfl, rfl, rfl⟩
set_option maxHeartbeats 4000000 in
theorem lw_walk (l : Launch) (b : Addr) (xs : List Int32) : MetFree l x (headSpec (Jvm.Cond.code x code maxLocals ret :: tables_1) room_1) (lw_P b xs) (fun _ _ _ _ _ => True) lw_Q := by
  refine MetFree.of_bodyS (code := code) (maxLocals := maxLocals) (ret := ret) (by decide) ?_ ?_
  · intro args s m h hn
    obtain ⟨meth, c, h1, h2, h3, h4, h5, h6, -, -⟩ := Cond.code_spec hn (atoms_spec (ws := Jvm.Cond.code x code maxLocals ret :: tables_1) h _ List.mem_cons_self)
    exact ⟨meth, c, h1, h2, h3, h4, h5, h6⟩
  · intro p e s m args below meth c s₁ B hml0 hP _
    obtain ⟨rfl, hx, hbd, hgv⟩ := hP
    obtain ⟨scr, harrAt, hlist, hof, hsmall⟩ := hx
    obtain ⟨hcb, hkn, -, -⟩ := State.arrayAt?_spec harrAt
    have hown : s.vm.findClass R_law = some m.cls := findClass_of_methodNamed B.named
    have hts0 : ∀ c ∈ (Jvm.Cond.code x code maxLocals ret :: tables_1), c.before #[Value.ref b] s = true := atoms_spec (ws := Jvm.Cond.code x code maxLocals ret :: tables_1) B.pre
    have hts : ∀ w ∈ lw_tbl, w.before #[Value.ref b] s = true := k2_hts_sels lw_privs (fun w hw => hts0 w (List.mem_cons_of_mem _ hw)) lw_privs_ok
    have hml : c.maxLocals = 4 := B.maxLocals_eq (hts0 _ List.mem_cons_self)
    have X₀ : Stand p l e room_1 s m #[Value.ref b] below meth c s₁ [] 0 0 := Stand.of_body B
    have hh0 : s₁.heap = s.heap := by rw [B.state]; rfl
    have hsz : scr.slots.size = xs.length := by rw [← Array.length_toList, hlist, List.length_map]
    have hval : ∀ j : Nat, j < xs.length → scr.slots[j]? = some (.int (xs.getD j 0)) := fun j hj => by
      rw [← Array.getElem?_toList, hlist]
      simp [hj]
    have hbl : b < s.heap.size := (Array.getElem?_eq_some_iff.mp hcb).1
    have hX : va_X b xs.length (fun j => xs.getD j 0) s s.heap := ⟨scr, hcb, hof, hkn, hsz, hval⟩
    have K : W p l e room_1 s m #[Value.ref b] below meth c s₁.heap [] 0 0 (lw_Z below #[Value.ref b] s) (entryFrame m ([Value.ref b] : List Value).toArray 4) := by
      rw [hh0]
      exact whole_start l hbd ⟨B.exec, B.bytes, B.returns, hml, hown, hts, hX, hbl, B.notSynchronized, hgv⟩
    obtain ⟨t, a1, o, b1, b2, b3⟩ := K s₁ rfl X₀
    exact ⟨t, o, a1, b1, b2, b3⟩
theorem lw_pre_spec {args : Array Value} {s : State} (h : (Jvm.Cond.and given_1 narrow_1).before args s = true) (hr : rest_1_c.before args s = true) : ∃ (b : Addr) (xs : List Int32), lw_P b xs args s := by
  have hs := flat_of_before _ h
  have hq := flat_of_before _ hr
  have hc : (Cond.count 1).before args s = true := hs _ (by decide +kernel)
  have harr : (Cond.arrayOf (.arg 0) .int).before args s = true := hs _ (by decide +kernel)
  have hle : (Cond.le (.length (.arg 0)) (.int 2560)).before args s = true := hs _ (by decide +kernel)
  have hlen : (Cond.isInt (.length (.arg 0))).before args s = true := hq _ (by decide +kernel)
  have hall : (Cond.all (.arg 0) (.isInt (.elem (.arg 0) (.index 0)))).before args s = true := hq _ (by decide +kernel)
  obtain ⟨b, xs, hb, hx⟩ := State.ints_of_pre rfl harr hlen hall
  have hsm : xs.length < 2 ^ 31 := hx.choose_spec.2.2.2
  have hev : (Term.length (.arg 0)).eval args s none [] s = some (.int xs.length.toInt32) := hx.length_eval hb
  have hv := Cond.le_ints hev (show (Term.int 2560).eval args s none [] s = some (.int 2560) from rfl)
  have hd : xs.length.toInt32 ≤ 2560 := by
    simpa [Cond.before, Cond.holds, hv] using hle
  have hN : xs.length ≤ 2560 := (Int32.ofNat_le_ofNat hsm (by decide)).mp (show Int32.ofNat xs.length ≤ Int32.ofNat 2560 from hd)
  exact ⟨b, xs, Cond.one_arg hc (show args[0]? = some (.ref b) from hb), hx, hN, h⟩
theorem lw_comes (l : Launch) : Comes l x (Jvm.Cond.code x code maxLocals ret :: tables_1) room_1 (fun tb e args s => Calls_1 tb e args s ∧ rest_1 tb e args s ∧ Pre_1 tb e args s)
    (fun _ _ args s o t => lw_Q args s o t) := by
  intro p e ha hc hk s m args below hf hfit hheap happ hpre
  obtain ⟨b, xs, hP⟩ := lw_pre_spec hpre.2.2 hpre.2.1
  obtain ⟨k, o, h1, h2, h3, hQ⟩ := lw_walk l b xs p e ha hc hk s m args below hf ((Spec.applies_iff_loose hf).mp happ).1 hP trivial
  exact ⟨k, o, h1, h2, h3, hQ⟩
theorem lw_frame {s t : State} {o : Outcome} {args : Array Value} (h : Framed s o t [] 20 545) :
    Framed s o t (fieldLocs frame_1_writes args s ++ arrayLocs frame_1_arrays args s ++ staticLocs frame_1_statics s) 20 545 := h
theorem lw_limb (L : Cond) (hL : ∀ (args : Array Value) (s t : State), L.after args s (.returned (some (.int 1))) t = true) :
    ArmFor flags0 classFile x code maxLocals ret World_1 tables_1 room_1 Calls_1 rest_1 Pre_1
      (fun tb e a s o t => postC L tb e a s o t ∧ Framed s o t (fieldLocs frame_1_writes a s ++ arrayLocs frame_1_arrays a s ++ staticLocs frame_1_statics s) 20 545) := by
  intro l _ _ _ p e ha hc hk s m args below hf hfit hheap happ hpre
  obtain ⟨k, o, h1, h2, h3, rfl, hF⟩ := lw_comes l p e ha hc hk s m args below hf hfit hheap happ hpre
  exact ⟨k, _, h1, h2, h3, hL args s _, lw_frame hF⟩
theorem i_vc : Claimed_1_1 ∧ Claimed_1_2 := ⟨lw_limb limb_1_1 (fun args s t => by simp [limb_1_1, Cond.after, Cond.holds, Cond.value]), lw_limb limb_1_2 (fun args s t => Cond.after_iff.mpr (by
  first | (rw [show limb_1_2 = Cond.eq .result (.int 1) from rfl, Cond.eq_ints (x := 1) (y := 1) rfl rfl]; simp; done) | (simp [limb_1_2, Cond.value, Term.eval]; done)))⟩

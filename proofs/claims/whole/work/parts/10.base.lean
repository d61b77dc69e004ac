/-! numbers: an Int32, an Int64 by the Int that it stands for -/
theorem ti_rng (x : Int32) : -2147483648 ≤ x.toInt ∧ x.toInt ≤ 2147483647 := by
  have h1 := x.le_toInt; have h2 := x.toInt_lt; omega
theorem tl_rng (x : Int64) : -9223372036854775808 ≤ x.toInt ∧ x.toInt ≤ 9223372036854775807 := by
  have h1 := x.le_toInt; have h2 := x.toInt_lt; omega
theorem ti_bm {a : Int} (h1 : -2147483648 ≤ a) (h2 : a ≤ 2147483647) : a.bmod (2 ^ 32) = a := Int.bmod_eq_of_le (by omega) (by omega)
theorem tl_bm {a : Int} (h1 : -9223372036854775808 ≤ a) (h2 : a ≤ 9223372036854775807) : a.bmod (2 ^ 64) = a := Int.bmod_eq_of_le (by omega) (by omega)
theorem ti_add {x y : Int32} {a b : Int} (hx : x.toInt = a) (hy : y.toInt = b) (h1 : -2147483648 ≤ a + b) (h2 : a + b ≤ 2147483647) : (x + y).toInt = a + b := by
  rw [Int32.toInt_add, hx, hy, ti_bm h1 h2]
theorem ti_sub {x y : Int32} {a b : Int} (hx : x.toInt = a) (hy : y.toInt = b) (h1 : -2147483648 ≤ a - b) (h2 : a - b ≤ 2147483647) : (x - y).toInt = a - b := by
  rw [Int32.toInt_sub, hx, hy, ti_bm h1 h2]
theorem ti_mul {x y : Int32} {a b : Int} (hx : x.toInt = a) (hy : y.toInt = b) (h1 : -2147483648 ≤ a * b) (h2 : a * b ≤ 2147483647) : (x * y).toInt = a * b := by
  rw [Int32.toInt_mul, hx, hy, ti_bm h1 h2]
theorem ti_div {x y : Int32} {a b : Int} (hx : x.toInt = a) (hy : y.toInt = b) (h1 : 0 ≤ a) (h2 : 0 < b) : (x / y).toInt = a / b := by
  have hr := ti_rng x
  have h3 : a / b ≤ a := Int.ediv_le_self _ h1
  have h4 : 0 ≤ a / b := Int.ediv_nonneg h1 (by omega)
  rw [Int32.toInt_div, hx, hy, Int.tdiv_eq_ediv_of_nonneg h1, ti_bm (by omega) (by omega)]
theorem tl_add {x y : Int64} {a b : Int} (hx : x.toInt = a) (hy : y.toInt = b) (h1 : -9223372036854775808 ≤ a + b) (h2 : a + b ≤ 9223372036854775807) : (x + y).toInt = a + b := by
  rw [Int64.toInt_add, hx, hy, tl_bm h1 h2]
theorem tl_sub {x y : Int64} {a b : Int} (hx : x.toInt = a) (hy : y.toInt = b) (h1 : -9223372036854775808 ≤ a - b) (h2 : a - b ≤ 9223372036854775807) : (x - y).toInt = a - b := by
  rw [Int64.toInt_sub, hx, hy, tl_bm h1 h2]
theorem tl_mul {x y : Int64} {a b : Int} (hx : x.toInt = a) (hy : y.toInt = b) (h1 : -9223372036854775808 ≤ a * b) (h2 : a * b ≤ 9223372036854775807) : (x * y).toInt = a * b := by
  rw [Int64.toInt_mul, hx, hy, tl_bm h1 h2]
theorem tl_neg {x : Int64} {a : Int} (hx : x.toInt = a) (h1 : -9223372036854775807 ≤ a) : (-x).toInt = -a := by
  have hr := tl_rng x
  rw [Int64.toInt_neg, hx, tl_bm (by omega) (by omega)]
theorem tl_div {x y : Int64} {a b : Int} (hx : x.toInt = a) (hy : y.toInt = b) (h1 : 0 ≤ a) (h2 : 0 < b) : (x / y).toInt = a / b := by
  have hr := tl_rng x
  have h3 : a / b ≤ a := Int.ediv_le_self _ h1
  have h4 : 0 ≤ a / b := Int.ediv_nonneg h1 (by omega)
  rw [Int64.toInt_div, hx, hy, Int.tdiv_eq_ediv_of_nonneg h1, tl_bm (by omega) (by omega)]
theorem tl_rem {x y : Int64} {a b : Int} (hx : x.toInt = a) (hy : y.toInt = b) (h1 : 0 ≤ a) (h2 : 0 < b) : (x - x / y * y).toInt = a % b := by
  have hr := tl_rng x
  have h3 : a / b ≤ a := Int.ediv_le_self _ h1
  have h4 : 0 ≤ a / b := Int.ediv_nonneg h1 (by omega)
  have h5 : a % b + b * (a / b) = a := Int.emod_add_mul_ediv a b
  have h6 : 0 ≤ a % b := Int.emod_nonneg _ (by omega)
  have h8 : 0 ≤ b * (a / b) := Int.mul_nonneg (by omega) h4
  have h9 : a / b * b = b * (a / b) := Int.mul_comm _ _
  have hd := tl_div hx hy h1 h2
  have hm := tl_mul hd hy (by omega) (by omega)
  rw [tl_sub hx hm (by omega) (by omega)]
  omega
theorem tc_i2l {x : Int32} {a : Int} (hx : x.toInt = a) : x.toInt64.toInt = a := by rw [Int32.toInt_toInt64, hx]
theorem tc_l2i {x : Int64} {a : Int} (hx : x.toInt = a) (h1 : -2147483648 ≤ a) (h2 : a ≤ 2147483647) : x.toInt32.toInt = a := by rw [Int64.toInt_toInt32, hx, ti_bm h1 h2]
theorem i_le {x y : Int32} {a b : Int} (hx : x.toInt = a) (hy : y.toInt = b) (h : x ≤ y) : a ≤ b := by rw [Int32.le_iff_toInt_le, hx, hy] at h; exact h
theorem i_nle {x y : Int32} {a b : Int} (hx : x.toInt = a) (hy : y.toInt = b) (h : ¬ x ≤ y) : b < a := by rw [Int32.le_iff_toInt_le, hx, hy] at h; omega
theorem i_lt {x y : Int32} {a b : Int} (hx : x.toInt = a) (hy : y.toInt = b) (h : x < y) : a < b := by rw [Int32.lt_iff_toInt_lt, hx, hy] at h; exact h
theorem i_nlt {x y : Int32} {a b : Int} (hx : x.toInt = a) (hy : y.toInt = b) (h : ¬ x < y) : b ≤ a := by rw [Int32.lt_iff_toInt_lt, hx, hy] at h; omega
theorem i_eq {x y : Int32} {a b : Int} (hx : x.toInt = a) (hy : y.toInt = b) (h : x = y) : a = b := by rw [← hx, ← hy, h]
theorem i_ne {x y : Int32} {a b : Int} (hx : x.toInt = a) (hy : y.toInt = b) (h : ¬ x = y) : a ≠ b := fun e => h (Int32.toInt_inj.mp (by rw [hx, hy, e]))
theorem l_le {x y : Int64} {a b : Int} (hx : x.toInt = a) (hy : y.toInt = b) (h : x ≤ y) : a ≤ b := by rw [Int64.le_iff_toInt_le, hx, hy] at h; exact h
theorem l_nle {x y : Int64} {a b : Int} (hx : x.toInt = a) (hy : y.toInt = b) (h : ¬ x ≤ y) : b < a := by rw [Int64.le_iff_toInt_le, hx, hy] at h; omega
theorem l_lt {x y : Int64} {a b : Int} (hx : x.toInt = a) (hy : y.toInt = b) (h : x < y) : a < b := by rw [Int64.lt_iff_toInt_lt, hx, hy] at h; exact h
theorem l_nlt {x y : Int64} {a b : Int} (hx : x.toInt = a) (hy : y.toInt = b) (h : ¬ x < y) : b ≤ a := by rw [Int64.lt_iff_toInt_lt, hx, hy] at h; omega
theorem l_eq {x y : Int64} {a b : Int} (hx : x.toInt = a) (hy : y.toInt = b) (h : x = y) : a = b := by rw [← hx, ← hy, h]
theorem l_ne {x y : Int64} {a b : Int} (hx : x.toInt = a) (hy : y.toInt = b) (h : ¬ x = y) : a ≠ b := fun e => h (Int64.toInt_inj.mp (by rw [hx, hy, e]))
theorem i_ext {x y : Int32} (h : x.toInt = y.toInt) : x = y := Int32.toInt_inj.mp h
theorem l_ext {x y : Int64} (h : x.toInt = y.toInt) : x = y := Int64.toInt_inj.mp h
theorem i_ne0 {y : Int32} {b : Int} (hy : y.toInt = b) (h : b ≠ 0) : ¬ y = 0 := fun e => h (by rw [← hy, e]; rfl)
theorem l_ne0 {y : Int64} {b : Int} (hy : y.toInt = b) (h : b ≠ 0) : ¬ y = 0 := fun e => h (by rw [← hy, e]; rfl)
theorem vi_in {i : Int32} {a : Int} {n : Nat} (hi : i.toInt = a) (h1 : 0 ≤ a) (h2 : a < (n : Int)) : vp_in i n := vp_in_iff.mpr ⟨by omega, by omega⟩
theorem cl_nat {i : Int32} {a : Int} {k : Nat} (hi : i.toInt = a) (h : a = (k : Int)) : i.toNatClampNeg = k := by
  show i.toInt.toNat = k
  rw [hi, h]; rfl
/-! the frame of all contracts: a world of cells, the tables, the links between nest mates -/
abbrev ty2 (cI cL : ClassId) : List (ClassId × FieldType) := [(cI, .int), (cL, .long)]
def nestw (U : State) : Prop :=
  (va_Nw (.methodLinkNest RX3 9 yX1_init RX3) U ∧ va_Nw (.methodLinkNest RX3 18 yX0_init RX3) U ∧ va_Nw (.methodLinkNest RX3 25 yX2_init RX3) U ∧ va_Nw (.methodLinkNest RX1 66 yX3_sumOfQuotients RX3) U) ∧
  (va_Nw (.fieldLinkNest RX3 66 RX1 "size" "I" RX3) U ∧ va_Nw (.fieldLinkNest RX3 70 RX0 "size" "I" RX3) U ∧ va_Nw (.fieldLinkNest RX3 71 RX2 "size" "I" RX3) U)
theorem nestw_warm {s U : State} (hW : s.WarmedH U.vm) (h : nestw s) : nestw U := by
  obtain ⟨⟨h1, h2, h3, h4⟩, h5, h6, h7⟩ := h
  exact ⟨⟨h1.warmM hW, h2.warmM hW, h3.warmM hW, h4.warmM hW⟩, h5.warmF hW, h6.warmF hW, h7.warmF hW⟩
theorem nestw_same {u U : State} (hvm : u.vm = U.vm) (h : nestw u) : nestw U := by
  obtain ⟨⟨h1, h2, h3, h4⟩, h5, h6, h7⟩ := h
  exact ⟨⟨h1.same rfl hvm, h2.same rfl hvm, h3.same rfl hvm, h4.same rfl hvm⟩, h5.same rfl hvm, h6.same rfl hvm, h7.same rfl hvm⟩
def pre0 (G : va_G) (cI cL : ClassId) (ws : va_W) (sz : Nat) (U : State) : Prop := U.heap.size = sz ∧ va_P G vwCl ws U.heap ∧ va_K G vwCl (ty2 cI cL) U ∧ va_D (fun _ => True) ws ∧ nestw U
theorem pre_blind {av : List Value} {G : va_G} {cI cL : ClassId} {ws : va_W} {sz : Nat} : FrameBlind (va_Pc av (pre0 G cI cL ws sz)) := by
  intro a U g mk q
  obtain ⟨q0, q1, q2, q3, q4, q5⟩ := q
  exact ⟨q0, q1, q2, va_K.moved (u := U) (U := U.calling g mk a) (Vm.Alike.refl U.vm) q3, q4, nestw_same (u := U) rfl q5⟩
theorem pre_pass {av : List Value} {G : va_G} {cI cL : ClassId} {wc : va_W} {A : Nat → Prop} {s : State} {H : Heap} (hK : va_K G vwCl (ty2 cI cL) s) (hN : nestw s) (hP : va_P G vwCl wc H) (hD : va_D A wc) : ∀ U : State, U.heap = H → s.WarmedH U.vm → va_Pc av (pre0 G cI cL wc H.size) av.toArray U := by
  intro U hU hW
  exact ⟨rfl, by rw [hU], by rw [hU]; exact hP, va_K.moved hW.alike hK, hD.weaken (fun _ _ _ _ => trivial), nestw_warm hW hN⟩
/-- behind a call that leaves its cells as they were -/
theorem ro_keep {D : va_G} {cl : List vw_C} {A0 : Nat → Prop} {ws wc : va_W} {H H1 : Heap} (hP : va_P D cl ws H) (hD : va_D A0 ws) (isC : List Nat) (hC : isC.map (fun i => ws[i]?) = wc.map some)
    (hk : ∀ q : Nat, q < H.size → ¬ va_A wc H.size q → H1[q]? = H[q]?) (hP1 : va_P D cl wc H1) : va_P D cl ws H1 := by
  intro k q hq
  by_cases h : ∃ (j : Nat) (e : va_E), wc[j]? = some (q.1, e)
  · obtain ⟨j, e, hj⟩ := h
    have h1 : (isC.map (fun i => ws[i]?))[j]? = some (some (q.1, e)) := by rw [hC, List.getElem?_map, hj]; rfl
    rw [List.getElem?_map] at h1
    cases hi : isC[j]? with
    | none => rw [hi] at h1; cases h1
    | some i =>
      rw [hi] at h1
      have h2 : ws[i]? = some (q.1, e) := Option.some.inj h1
      have h3 : k = i := hD.1 k i q (q.1, e) hq h2 rfl
      subst h3
      have h4 : q = (q.1, e) := Option.some.inj (hq.symm.trans h2)
      rw [h4]
      exact hP1 j _ hj
  · refine (hP k q hq).kept (hk q.1 (hP k q hq).lt ?_)
    rintro (⟨k2, e, h2⟩ | h2)
    · exact h ⟨k2, e, h2⟩
    · have := (hP k q hq).lt
      omega
section RO
variable {p : Program} {l : Launch} {e : Env} {R : Room} {s : State} {m : MethodId} {args : Array Value} {below : List Frame} {meth : Method} {c : Code} {H : Heap} {locs : List Loc} {cells slots : Nat} {Q : State → Prop}
variable {pc : Nat} {ls : Array Slot} {rest st0 : List Value} {a : Array Value} {A0 : Nat → Prop} {H0 : Heap} {G : va_G} {ws wc : va_W}
theorem ro_calli {post : Int32 → Unit → Prop} (hr : va_Run p l e R s m args below meth c H locs cells slots 0 0 (F0 m pc ls st0) rest (va_Qi post (fun _ t => va_P G vwCl wc t.heap ∧ va_D (va_A wc H.size) wc) (va_A wc H.size) a) (va_A wc H.size)) (hP : va_P G vwCl ws H) (hD : va_D A0 ws) (hS : va_S A0 H0 H locs) (hA : ∀ q, H0.size ≤ q → A0 q) (isC : List Nat) (hC : isC.map (fun i => ws[i]?) = wc.map some)
    (kk : ∀ (r : Int32) (H1 : Heap) (locs1 : List Loc), post r () → va_P G vwCl ws H1 → va_S A0 H0 H1 locs1 → W p l e R s m args below meth c H1 locs1 cells slots Q (F0 m (pc + 3) ls (.int r :: rest))) : W p l e R s m args below meth c H locs cells slots Q (F0 m pc ls st0) := by
  have hF := va_free (wc := wc) hD hS hA isC hC
  refine va_calli hr hS (fun q _ h => hF q h) hF (fun r u t H1 locs1 ht hvm hw hB hz hk hS1 => ?_)
  refine kk r H1 locs1 hw (ro_keep hP hD isC hC hk ?_) hS1
  rw [← ht]; exact hB.1
theorem ro_calll {post : Int64 → Unit → Prop} (hr : va_Run p l e R s m args below meth c H locs cells slots 0 0 (F0 m pc ls st0) rest (va_Ql post (fun _ t => va_P G vwCl wc t.heap ∧ va_D (va_A wc H.size) wc) (va_A wc H.size) a) (va_A wc H.size)) (hP : va_P G vwCl ws H) (hD : va_D A0 ws) (hS : va_S A0 H0 H locs) (hA : ∀ q, H0.size ≤ q → A0 q) (isC : List Nat) (hC : isC.map (fun i => ws[i]?) = wc.map some)
    (kk : ∀ (r : Int64) (H1 : Heap) (locs1 : List Loc), post r () → va_P G vwCl ws H1 → va_S A0 H0 H1 locs1 → W p l e R s m args below meth c H1 locs1 cells slots Q (F0 m (pc + 3) ls (.long r :: rest))) : W p l e R s m args below meth c H locs cells slots Q (F0 m pc ls st0) := by
  have hF := va_free (wc := wc) hD hS hA isC hC
  refine va_calll hr hS (fun q _ h => hF q h) hF (fun r u t H1 locs1 ht hvm hw hB hz hk hS1 => ?_)
  refine kk r H1 locs1 hw (ro_keep hP hD isC hC hk ?_) hS1
  rw [← ht]; exact hB.1
/-- a call that changes its cells: the rest's places and the new cells, in the order that ps says -/
theorem rw_calli {S : Type} {post : Int32 → S → Prop} {wf : S → va_W} {wr : va_W} (hr : va_Run p l e R s m args below meth c H locs cells slots 0 0 (F0 m pc ls st0) rest (va_Qi post (fun u t => va_P G vwCl (wf u) t.heap ∧ va_D (va_A wc H.size) (wf u)) (va_A wc H.size) a) (va_A wc H.size)) (hP : va_P G vwCl ws H) (hD : va_D A0 ws) (hS : va_S A0 H0 H locs) (hA : ∀ q, H0.size ≤ q → A0 q) (isC isR : List Nat) (hC : isC.map (fun i => ws[i]?) = wc.map some) (hR : isR.map (fun i => ws[i]?) = wr.map some) (hn : va_nd isR = true) (hdis : ∀ i ∈ isR, i ∉ isC)
    (kk : ∀ (r : Int32) (u : S) (H1 : Heap) (locs1 : List Loc), post r u → va_P G vwCl (wr ++ wf u) H1 → va_D A0 (wr ++ wf u) → va_S A0 H0 H1 locs1 → W p l e R s m args below meth c H1 locs1 cells slots Q (F0 m (pc + 3) ls (.int r :: rest))) : W p l e R s m args below meth c H locs cells slots Q (F0 m pc ls st0) := by
  have hF := va_free (wc := wc) hD hS hA isC hC
  refine va_calli hr hS (fun q _ h => hF q h) hF (fun r u t H1 locs1 ht hvm hw hB hz hk hS1 => ?_)
  obtain ⟨hP1, hD1⟩ := hB
  rw [ht] at hP1
  obtain ⟨h1, h2⟩ := va_join (wr := wr) (w1 := wf u) hP hD isC isR hC hR hn hdis hk hF hP1 hD1
  exact kk r u H1 locs1 hw h1 h2 hS1
theorem rw_callv {S : Type} {post : S → Prop} {wf : S → va_W} {wr : va_W} (hr : va_Run p l e R s m args below meth c H locs cells slots 0 0 (F0 m pc ls st0) rest (va_Qv post (fun u t => va_P G vwCl (wf u) t.heap ∧ va_D (va_A wc H.size) (wf u)) (va_A wc H.size) a) (va_A wc H.size)) (hP : va_P G vwCl ws H) (hD : va_D A0 ws) (hS : va_S A0 H0 H locs) (hA : ∀ q, H0.size ≤ q → A0 q) (isC isR : List Nat) (hC : isC.map (fun i => ws[i]?) = wc.map some) (hR : isR.map (fun i => ws[i]?) = wr.map some) (hn : va_nd isR = true) (hdis : ∀ i ∈ isR, i ∉ isC)
    (kk : ∀ (u : S) (H1 : Heap) (locs1 : List Loc), post u → va_P G vwCl (wr ++ wf u) H1 → va_D A0 (wr ++ wf u) → va_S A0 H0 H1 locs1 → W p l e R s m args below meth c H1 locs1 cells slots Q (F0 m (pc + 3) ls rest)) : W p l e R s m args below meth c H locs cells slots Q (F0 m pc ls st0) := by
  have hF := va_free (wc := wc) hD hS hA isC hC
  refine va_callv hr hS (fun q _ h => hF q h) hF (fun u t H1 locs1 ht hvm hw hB hz hk hS1 => ?_)
  obtain ⟨hP1, hD1⟩ := hB
  rw [ht] at hP1
  obtain ⟨h1, h2⟩ := va_join (wr := wr) (w1 := wf u) hP hD isC isR hC hR hn hdis hk hF hP1 hD1
  exact kk u H1 locs1 hw h1 h2 hS1
theorem w_h {g : JFrame} {A : Nat → Prop} (hP : va_P G vwCl ws s.heap) (k : ∀ (H : Heap) (locs : List Loc), va_P G vwCl ws H → va_S A s.heap H locs → W p l e R s m args below meth c H locs cells slots Q g) : W p l e R s m args below meth c s.heap [] cells slots Q g := k s.heap [] hP va_S.rf
theorem na_i {cc : ByteArray} {cI cL : ClassId} {A : Nat → Prop} (hexec : p.tables.exec = Jvm.exec) (hb : c.code = cc) (harr : (Cond.arrayClass .int).before args s = true) (hK : va_K G vwCl (ty2 cI cL) s) (hP : va_P G vwCl ws H) (hD : va_D A ws) (hS : va_S A H0 H locs) (hA : ∀ q, H0.size ≤ q → A q)
    {n : Int32} {N' : Nat} (hn : ¬ n < 0) (hN : n.toNatClampNeg = N') (hbytes : N' * componentBytes .int ≤ 536870912) (hcells : cells + 1 ≤ R.cells) (hslots : slots + N' ≤ R.slots) (hdg : decode cc pc = .ok (.newarray .int, 2))
    (kk : ∀ (q : Nat) (H1 : Heap), va_P G vwCl (ws ++ [(q, .inl (cI, N', .inl (fun _ => 0)))]) H1 → va_D A (ws ++ [(q, .inl (cI, N', .inl (fun _ => 0)))]) → va_S A H0 H1 locs → W p l e R s m args below meth c H1 locs (cells + 1) (slots + N') Q (F0 m (pc + 2) ls (.ref q :: rest))) : W p l e R s m args below meth c H locs cells slots Q (F0 m pc ls (.int n :: rest)) := by
  refine va_newa (atype := .int) (ty := .int) hexec hb harr rfl hK hP hD hS hA (a0 := (N', .inl (fun _ => 0))) (fun cA => rfl) hn hN hbytes hcells hslots hdg (fun q cA H1 hK1 hP1 hD1 hS1 => ?_)
  have h1 : s.vm.findClass ("[" ++ FieldType.int.toString) = some cA := (hK1.2 2 (cA, .int) rfl).2
  have h2 : s.vm.findClass ("[" ++ FieldType.int.toString) = some cI := (hK.2 0 (cI, .int) rfl).2
  have e : cA = cI := Option.some.inj (h1.symm.trans h2)
  subst e
  exact kk q H1 hP1 hD1 hS1
theorem na_l {cc : ByteArray} {cI cL : ClassId} {A : Nat → Prop} (hexec : p.tables.exec = Jvm.exec) (hb : c.code = cc) (harr : (Cond.arrayClass .long).before args s = true) (hK : va_K G vwCl (ty2 cI cL) s) (hP : va_P G vwCl ws H) (hD : va_D A ws) (hS : va_S A H0 H locs) (hA : ∀ q, H0.size ≤ q → A q)
    {n : Int32} {N' : Nat} (hn : ¬ n < 0) (hN : n.toNatClampNeg = N') (hbytes : N' * componentBytes .long ≤ 536870912) (hcells : cells + 1 ≤ R.cells) (hslots : slots + N' ≤ R.slots) (hdg : decode cc pc = .ok (.newarray .long, 2))
    (kk : ∀ (q : Nat) (H1 : Heap), va_P G vwCl (ws ++ [(q, .inl (cL, N', .inr (.inl (fun _ => 0))))]) H1 → va_D A (ws ++ [(q, .inl (cL, N', .inr (.inl (fun _ => 0))))]) → va_S A H0 H1 locs → W p l e R s m args below meth c H1 locs (cells + 1) (slots + N') Q (F0 m (pc + 2) ls (.ref q :: rest))) : W p l e R s m args below meth c H locs cells slots Q (F0 m pc ls (.int n :: rest)) := by
  refine va_newa (atype := .long) (ty := .long) hexec hb harr rfl hK hP hD hS hA (a0 := (N', .inr (.inl (fun _ => 0)))) (fun cA => rfl) hn hN hbytes hcells hslots hdg (fun q cA H1 hK1 hP1 hD1 hS1 => ?_)
  have h1 : s.vm.findClass ("[" ++ FieldType.long.toString) = some cA := (hK1.2 2 (cA, .long) rfl).2
  have h2 : s.vm.findClass ("[" ++ FieldType.long.toString) = some cL := (hK.2 1 (cL, .long) rfl).2
  have e : cA = cL := Option.some.inj (h1.symm.trans h2)
  subst e
  exact kk q H1 hP1 hD1 hS1
end RO
theorem ti_min {x y : Int32} {a b : Int} (hx : x.toInt = a) (hy : y.toInt = b) : (if y < x then y else x).toInt = min a b := by
  by_cases h : y < x
  · rw [if_pos h, hy]; have := i_lt hy hx h; omega
  · rw [if_neg h, hx]; have := i_nlt hy hx h; omega
theorem tl_max {x y : Int64} {a b : Int} (hx : x.toInt = a) (hy : y.toInt = b) : (if y < x then x else y).toInt = max a b := by
  by_cases h : y < x
  · rw [if_pos h, hx]; have := l_lt hy hx h; omega
  · rw [if_neg h, hy]; have := l_nlt hy hx h; omega
theorem W_loop1 {A1 : Type} {p : Program} {l : Launch} {e : Env} {R : Room} {s : State} {m : MethodId} {args : Array Value} {below : List Frame} {meth : Method} {c : Code} {cells slots : Nat} {Q : State → Prop} {hd : Nat} {st : List Value} (I : A1 → Array Slot → Heap → List Loc → Prop) (mu : A1 → Nat)
    (step : ∀ (a1 : A1) (ls : Array Slot) (H : Heap) (locs : List Loc), I a1 ls H locs → (∀ (b1 : A1) (ls' : Array Slot) (H' : Heap) (locs' : List Loc), I b1 ls' H' locs' → mu b1 < mu a1 → W p l e R s m args below meth c H' locs' cells slots Q (F0 m hd ls' st)) → W p l e R s m args below meth c H locs cells slots Q (F0 m hd ls st)) :
    ∀ (a1 : A1) (ls : Array Slot) (H : Heap) (locs : List Loc), I a1 ls H locs → W p l e R s m args below meth c H locs cells slots Q (F0 m hd ls st) := by
  have key : ∀ (n : Nat) (a1 : A1) (ls : Array Slot) (H : Heap) (locs : List Loc), I a1 ls H locs → mu a1 < n → W p l e R s m args below meth c H locs cells slots Q (F0 m hd ls st) := by
    intro n
    induction n with
    | zero => intro a1 ls H locs _ h; exact absurd h (Nat.not_lt_zero _)
    | succ n ih =>
      intro a1 ls H locs hI h
      exact step a1 ls H locs hI (fun b1 ls' H' locs' hI' h' => ih b1 ls' H' locs' hI' (by omega))
  intro a1 ls H locs hI
  exact key _ a1 ls H locs hI (Nat.lt_succ_self _)
theorem W_loop2 {A1 A2 : Type} {p : Program} {l : Launch} {e : Env} {R : Room} {s : State} {m : MethodId} {args : Array Value} {below : List Frame} {meth : Method} {c : Code} {cells slots : Nat} {Q : State → Prop} {hd : Nat} {st : List Value} (I : A1 → A2 → Array Slot → Heap → List Loc → Prop) (mu : A1 → A2 → Nat)
    (step : ∀ (a1 : A1) (a2 : A2) (ls : Array Slot) (H : Heap) (locs : List Loc), I a1 a2 ls H locs → (∀ (b1 : A1) (b2 : A2) (ls' : Array Slot) (H' : Heap) (locs' : List Loc), I b1 b2 ls' H' locs' → mu b1 b2 < mu a1 a2 → W p l e R s m args below meth c H' locs' cells slots Q (F0 m hd ls' st)) → W p l e R s m args below meth c H locs cells slots Q (F0 m hd ls st)) :
    ∀ (a1 : A1) (a2 : A2) (ls : Array Slot) (H : Heap) (locs : List Loc), I a1 a2 ls H locs → W p l e R s m args below meth c H locs cells slots Q (F0 m hd ls st) := by
  have key : ∀ (n : Nat) (a1 : A1) (a2 : A2) (ls : Array Slot) (H : Heap) (locs : List Loc), I a1 a2 ls H locs → mu a1 a2 < n → W p l e R s m args below meth c H locs cells slots Q (F0 m hd ls st) := by
    intro n
    induction n with
    | zero => intro a1 a2 ls H locs _ h; exact absurd h (Nat.not_lt_zero _)
    | succ n ih =>
      intro a1 a2 ls H locs hI h
      exact step a1 a2 ls H locs hI (fun b1 b2 ls' H' locs' hI' h' => ih b1 b2 ls' H' locs' hI' (by omega))
  intro a1 a2 ls H locs hI
  exact key _ a1 a2 ls H locs hI (Nat.lt_succ_self _)
theorem W_loop3 {A1 A2 A3 : Type} {p : Program} {l : Launch} {e : Env} {R : Room} {s : State} {m : MethodId} {args : Array Value} {below : List Frame} {meth : Method} {c : Code} {cells slots : Nat} {Q : State → Prop} {hd : Nat} {st : List Value} (I : A1 → A2 → A3 → Array Slot → Heap → List Loc → Prop) (mu : A1 → A2 → A3 → Nat)
    (step : ∀ (a1 : A1) (a2 : A2) (a3 : A3) (ls : Array Slot) (H : Heap) (locs : List Loc), I a1 a2 a3 ls H locs → (∀ (b1 : A1) (b2 : A2) (b3 : A3) (ls' : Array Slot) (H' : Heap) (locs' : List Loc), I b1 b2 b3 ls' H' locs' → mu b1 b2 b3 < mu a1 a2 a3 → W p l e R s m args below meth c H' locs' cells slots Q (F0 m hd ls' st)) → W p l e R s m args below meth c H locs cells slots Q (F0 m hd ls st)) :
    ∀ (a1 : A1) (a2 : A2) (a3 : A3) (ls : Array Slot) (H : Heap) (locs : List Loc), I a1 a2 a3 ls H locs → W p l e R s m args below meth c H locs cells slots Q (F0 m hd ls st) := by
  have key : ∀ (n : Nat) (a1 : A1) (a2 : A2) (a3 : A3) (ls : Array Slot) (H : Heap) (locs : List Loc), I a1 a2 a3 ls H locs → mu a1 a2 a3 < n → W p l e R s m args below meth c H locs cells slots Q (F0 m hd ls st) := by
    intro n
    induction n with
    | zero => intro a1 a2 a3 ls H locs _ h; exact absurd h (Nat.not_lt_zero _)
    | succ n ih =>
      intro a1 a2 a3 ls H locs hI h
      exact step a1 a2 a3 ls H locs hI (fun b1 b2 b3 ls' H' locs' hI' h' => ih b1 b2 b3 ls' H' locs' hI' (by omega))
  intro a1 a2 a3 ls H locs hI
  exact key _ a1 a2 a3 ls H locs hI (Nat.lt_succ_self _)
theorem W_loop4 {A1 A2 A3 A4 : Type} {p : Program} {l : Launch} {e : Env} {R : Room} {s : State} {m : MethodId} {args : Array Value} {below : List Frame} {meth : Method} {c : Code} {cells slots : Nat} {Q : State → Prop} {hd : Nat} {st : List Value} (I : A1 → A2 → A3 → A4 → Array Slot → Heap → List Loc → Prop) (mu : A1 → A2 → A3 → A4 → Nat)
    (step : ∀ (a1 : A1) (a2 : A2) (a3 : A3) (a4 : A4) (ls : Array Slot) (H : Heap) (locs : List Loc), I a1 a2 a3 a4 ls H locs → (∀ (b1 : A1) (b2 : A2) (b3 : A3) (b4 : A4) (ls' : Array Slot) (H' : Heap) (locs' : List Loc), I b1 b2 b3 b4 ls' H' locs' → mu b1 b2 b3 b4 < mu a1 a2 a3 a4 → W p l e R s m args below meth c H' locs' cells slots Q (F0 m hd ls' st)) → W p l e R s m args below meth c H locs cells slots Q (F0 m hd ls st)) :
    ∀ (a1 : A1) (a2 : A2) (a3 : A3) (a4 : A4) (ls : Array Slot) (H : Heap) (locs : List Loc), I a1 a2 a3 a4 ls H locs → W p l e R s m args below meth c H locs cells slots Q (F0 m hd ls st) := by
  have key : ∀ (n : Nat) (a1 : A1) (a2 : A2) (a3 : A3) (a4 : A4) (ls : Array Slot) (H : Heap) (locs : List Loc), I a1 a2 a3 a4 ls H locs → mu a1 a2 a3 a4 < n → W p l e R s m args below meth c H locs cells slots Q (F0 m hd ls st) := by
    intro n
    induction n with
    | zero => intro a1 a2 a3 a4 ls H locs _ h; exact absurd h (Nat.not_lt_zero _)
    | succ n ih =>
      intro a1 a2 a3 a4 ls H locs hI h
      exact step a1 a2 a3 a4 ls H locs hI (fun b1 b2 b3 b4 ls' H' locs' hI' h' => ih b1 b2 b3 b4 ls' H' locs' hI' (by omega))
  intro a1 a2 a3 a4 ls H locs hI
  exact key _ a1 a2 a3 a4 ls H locs hI (Nat.lt_succ_self _)
theorem W_loop5 {A1 A2 A3 A4 A5 : Type} {p : Program} {l : Launch} {e : Env} {R : Room} {s : State} {m : MethodId} {args : Array Value} {below : List Frame} {meth : Method} {c : Code} {cells slots : Nat} {Q : State → Prop} {hd : Nat} {st : List Value} (I : A1 → A2 → A3 → A4 → A5 → Array Slot → Heap → List Loc → Prop) (mu : A1 → A2 → A3 → A4 → A5 → Nat)
    (step : ∀ (a1 : A1) (a2 : A2) (a3 : A3) (a4 : A4) (a5 : A5) (ls : Array Slot) (H : Heap) (locs : List Loc), I a1 a2 a3 a4 a5 ls H locs → (∀ (b1 : A1) (b2 : A2) (b3 : A3) (b4 : A4) (b5 : A5) (ls' : Array Slot) (H' : Heap) (locs' : List Loc), I b1 b2 b3 b4 b5 ls' H' locs' → mu b1 b2 b3 b4 b5 < mu a1 a2 a3 a4 a5 → W p l e R s m args below meth c H' locs' cells slots Q (F0 m hd ls' st)) → W p l e R s m args below meth c H locs cells slots Q (F0 m hd ls st)) :
    ∀ (a1 : A1) (a2 : A2) (a3 : A3) (a4 : A4) (a5 : A5) (ls : Array Slot) (H : Heap) (locs : List Loc), I a1 a2 a3 a4 a5 ls H locs → W p l e R s m args below meth c H locs cells slots Q (F0 m hd ls st) := by
  have key : ∀ (n : Nat) (a1 : A1) (a2 : A2) (a3 : A3) (a4 : A4) (a5 : A5) (ls : Array Slot) (H : Heap) (locs : List Loc), I a1 a2 a3 a4 a5 ls H locs → mu a1 a2 a3 a4 a5 < n → W p l e R s m args below meth c H locs cells slots Q (F0 m hd ls st) := by
    intro n
    induction n with
    | zero => intro a1 a2 a3 a4 a5 ls H locs _ h; exact absurd h (Nat.not_lt_zero _)
    | succ n ih =>
      intro a1 a2 a3 a4 a5 ls H locs hI h
      exact step a1 a2 a3 a4 a5 ls H locs hI (fun b1 b2 b3 b4 b5 ls' H' locs' hI' h' => ih b1 b2 b3 b4 b5 ls' H' locs' hI' (by omega))
  intro a1 a2 a3 a4 a5 ls H locs hI
  exact key _ a1 a2 a3 a4 a5 ls H locs hI (Nat.lt_succ_self _)
theorem W_loop6 {A1 A2 A3 A4 A5 A6 : Type} {p : Program} {l : Launch} {e : Env} {R : Room} {s : State} {m : MethodId} {args : Array Value} {below : List Frame} {meth : Method} {c : Code} {cells slots : Nat} {Q : State → Prop} {hd : Nat} {st : List Value} (I : A1 → A2 → A3 → A4 → A5 → A6 → Array Slot → Heap → List Loc → Prop) (mu : A1 → A2 → A3 → A4 → A5 → A6 → Nat)
    (step : ∀ (a1 : A1) (a2 : A2) (a3 : A3) (a4 : A4) (a5 : A5) (a6 : A6) (ls : Array Slot) (H : Heap) (locs : List Loc), I a1 a2 a3 a4 a5 a6 ls H locs → (∀ (b1 : A1) (b2 : A2) (b3 : A3) (b4 : A4) (b5 : A5) (b6 : A6) (ls' : Array Slot) (H' : Heap) (locs' : List Loc), I b1 b2 b3 b4 b5 b6 ls' H' locs' → mu b1 b2 b3 b4 b5 b6 < mu a1 a2 a3 a4 a5 a6 → W p l e R s m args below meth c H' locs' cells slots Q (F0 m hd ls' st)) → W p l e R s m args below meth c H locs cells slots Q (F0 m hd ls st)) :
    ∀ (a1 : A1) (a2 : A2) (a3 : A3) (a4 : A4) (a5 : A5) (a6 : A6) (ls : Array Slot) (H : Heap) (locs : List Loc), I a1 a2 a3 a4 a5 a6 ls H locs → W p l e R s m args below meth c H locs cells slots Q (F0 m hd ls st) := by
  have key : ∀ (n : Nat) (a1 : A1) (a2 : A2) (a3 : A3) (a4 : A4) (a5 : A5) (a6 : A6) (ls : Array Slot) (H : Heap) (locs : List Loc), I a1 a2 a3 a4 a5 a6 ls H locs → mu a1 a2 a3 a4 a5 a6 < n → W p l e R s m args below meth c H locs cells slots Q (F0 m hd ls st) := by
    intro n
    induction n with
    | zero => intro a1 a2 a3 a4 a5 a6 ls H locs _ h; exact absurd h (Nat.not_lt_zero _)
    | succ n ih =>
      intro a1 a2 a3 a4 a5 a6 ls H locs hI h
      exact step a1 a2 a3 a4 a5 a6 ls H locs hI (fun b1 b2 b3 b4 b5 b6 ls' H' locs' hI' h' => ih b1 b2 b3 b4 b5 b6 ls' H' locs' hI' (by omega))
  intro a1 a2 a3 a4 a5 a6 ls H locs hI
  exact key _ a1 a2 a3 a4 a5 a6 ls H locs hI (Nat.lt_succ_self _)
theorem W_loop7 {A1 A2 A3 A4 A5 A6 A7 : Type} {p : Program} {l : Launch} {e : Env} {R : Room} {s : State} {m : MethodId} {args : Array Value} {below : List Frame} {meth : Method} {c : Code} {cells slots : Nat} {Q : State → Prop} {hd : Nat} {st : List Value} (I : A1 → A2 → A3 → A4 → A5 → A6 → A7 → Array Slot → Heap → List Loc → Prop) (mu : A1 → A2 → A3 → A4 → A5 → A6 → A7 → Nat)
    (step : ∀ (a1 : A1) (a2 : A2) (a3 : A3) (a4 : A4) (a5 : A5) (a6 : A6) (a7 : A7) (ls : Array Slot) (H : Heap) (locs : List Loc), I a1 a2 a3 a4 a5 a6 a7 ls H locs → (∀ (b1 : A1) (b2 : A2) (b3 : A3) (b4 : A4) (b5 : A5) (b6 : A6) (b7 : A7) (ls' : Array Slot) (H' : Heap) (locs' : List Loc), I b1 b2 b3 b4 b5 b6 b7 ls' H' locs' → mu b1 b2 b3 b4 b5 b6 b7 < mu a1 a2 a3 a4 a5 a6 a7 → W p l e R s m args below meth c H' locs' cells slots Q (F0 m hd ls' st)) → W p l e R s m args below meth c H locs cells slots Q (F0 m hd ls st)) :
    ∀ (a1 : A1) (a2 : A2) (a3 : A3) (a4 : A4) (a5 : A5) (a6 : A6) (a7 : A7) (ls : Array Slot) (H : Heap) (locs : List Loc), I a1 a2 a3 a4 a5 a6 a7 ls H locs → W p l e R s m args below meth c H locs cells slots Q (F0 m hd ls st) := by
  have key : ∀ (n : Nat) (a1 : A1) (a2 : A2) (a3 : A3) (a4 : A4) (a5 : A5) (a6 : A6) (a7 : A7) (ls : Array Slot) (H : Heap) (locs : List Loc), I a1 a2 a3 a4 a5 a6 a7 ls H locs → mu a1 a2 a3 a4 a5 a6 a7 < n → W p l e R s m args below meth c H locs cells slots Q (F0 m hd ls st) := by
    intro n
    induction n with
    | zero => intro a1 a2 a3 a4 a5 a6 a7 ls H locs _ h; exact absurd h (Nat.not_lt_zero _)
    | succ n ih =>
      intro a1 a2 a3 a4 a5 a6 a7 ls H locs hI h
      exact step a1 a2 a3 a4 a5 a6 a7 ls H locs hI (fun b1 b2 b3 b4 b5 b6 b7 ls' H' locs' hI' h' => ih b1 b2 b3 b4 b5 b6 b7 ls' H' locs' hI' (by omega))
  intro a1 a2 a3 a4 a5 a6 a7 ls H locs hI
  exact key _ a1 a2 a3 a4 a5 a6 a7 ls H locs hI (Nat.lt_succ_self _)
theorem W_loop8 {A1 A2 A3 A4 A5 A6 A7 A8 : Type} {p : Program} {l : Launch} {e : Env} {R : Room} {s : State} {m : MethodId} {args : Array Value} {below : List Frame} {meth : Method} {c : Code} {cells slots : Nat} {Q : State → Prop} {hd : Nat} {st : List Value} (I : A1 → A2 → A3 → A4 → A5 → A6 → A7 → A8 → Array Slot → Heap → List Loc → Prop) (mu : A1 → A2 → A3 → A4 → A5 → A6 → A7 → A8 → Nat)
    (step : ∀ (a1 : A1) (a2 : A2) (a3 : A3) (a4 : A4) (a5 : A5) (a6 : A6) (a7 : A7) (a8 : A8) (ls : Array Slot) (H : Heap) (locs : List Loc), I a1 a2 a3 a4 a5 a6 a7 a8 ls H locs → (∀ (b1 : A1) (b2 : A2) (b3 : A3) (b4 : A4) (b5 : A5) (b6 : A6) (b7 : A7) (b8 : A8) (ls' : Array Slot) (H' : Heap) (locs' : List Loc), I b1 b2 b3 b4 b5 b6 b7 b8 ls' H' locs' → mu b1 b2 b3 b4 b5 b6 b7 b8 < mu a1 a2 a3 a4 a5 a6 a7 a8 → W p l e R s m args below meth c H' locs' cells slots Q (F0 m hd ls' st)) → W p l e R s m args below meth c H locs cells slots Q (F0 m hd ls st)) :
    ∀ (a1 : A1) (a2 : A2) (a3 : A3) (a4 : A4) (a5 : A5) (a6 : A6) (a7 : A7) (a8 : A8) (ls : Array Slot) (H : Heap) (locs : List Loc), I a1 a2 a3 a4 a5 a6 a7 a8 ls H locs → W p l e R s m args below meth c H locs cells slots Q (F0 m hd ls st) := by
  have key : ∀ (n : Nat) (a1 : A1) (a2 : A2) (a3 : A3) (a4 : A4) (a5 : A5) (a6 : A6) (a7 : A7) (a8 : A8) (ls : Array Slot) (H : Heap) (locs : List Loc), I a1 a2 a3 a4 a5 a6 a7 a8 ls H locs → mu a1 a2 a3 a4 a5 a6 a7 a8 < n → W p l e R s m args below meth c H locs cells slots Q (F0 m hd ls st) := by
    intro n
    induction n with
    | zero => intro a1 a2 a3 a4 a5 a6 a7 a8 ls H locs _ h; exact absurd h (Nat.not_lt_zero _)
    | succ n ih =>
      intro a1 a2 a3 a4 a5 a6 a7 a8 ls H locs hI h
      exact step a1 a2 a3 a4 a5 a6 a7 a8 ls H locs hI (fun b1 b2 b3 b4 b5 b6 b7 b8 ls' H' locs' hI' h' => ih b1 b2 b3 b4 b5 b6 b7 b8 ls' H' locs' hI' (by omega))
  intro a1 a2 a3 a4 a5 a6 a7 a8 ls H locs hI
  exact key _ a1 a2 a3 a4 a5 a6 a7 a8 ls H locs hI (Nat.lt_succ_self _)
theorem W_loop9 {A1 A2 A3 A4 A5 A6 A7 A8 A9 : Type} {p : Program} {l : Launch} {e : Env} {R : Room} {s : State} {m : MethodId} {args : Array Value} {below : List Frame} {meth : Method} {c : Code} {cells slots : Nat} {Q : State → Prop} {hd : Nat} {st : List Value} (I : A1 → A2 → A3 → A4 → A5 → A6 → A7 → A8 → A9 → Array Slot → Heap → List Loc → Prop) (mu : A1 → A2 → A3 → A4 → A5 → A6 → A7 → A8 → A9 → Nat)
    (step : ∀ (a1 : A1) (a2 : A2) (a3 : A3) (a4 : A4) (a5 : A5) (a6 : A6) (a7 : A7) (a8 : A8) (a9 : A9) (ls : Array Slot) (H : Heap) (locs : List Loc), I a1 a2 a3 a4 a5 a6 a7 a8 a9 ls H locs → (∀ (b1 : A1) (b2 : A2) (b3 : A3) (b4 : A4) (b5 : A5) (b6 : A6) (b7 : A7) (b8 : A8) (b9 : A9) (ls' : Array Slot) (H' : Heap) (locs' : List Loc), I b1 b2 b3 b4 b5 b6 b7 b8 b9 ls' H' locs' → mu b1 b2 b3 b4 b5 b6 b7 b8 b9 < mu a1 a2 a3 a4 a5 a6 a7 a8 a9 → W p l e R s m args below meth c H' locs' cells slots Q (F0 m hd ls' st)) → W p l e R s m args below meth c H locs cells slots Q (F0 m hd ls st)) :
    ∀ (a1 : A1) (a2 : A2) (a3 : A3) (a4 : A4) (a5 : A5) (a6 : A6) (a7 : A7) (a8 : A8) (a9 : A9) (ls : Array Slot) (H : Heap) (locs : List Loc), I a1 a2 a3 a4 a5 a6 a7 a8 a9 ls H locs → W p l e R s m args below meth c H locs cells slots Q (F0 m hd ls st) := by
  have key : ∀ (n : Nat) (a1 : A1) (a2 : A2) (a3 : A3) (a4 : A4) (a5 : A5) (a6 : A6) (a7 : A7) (a8 : A8) (a9 : A9) (ls : Array Slot) (H : Heap) (locs : List Loc), I a1 a2 a3 a4 a5 a6 a7 a8 a9 ls H locs → mu a1 a2 a3 a4 a5 a6 a7 a8 a9 < n → W p l e R s m args below meth c H locs cells slots Q (F0 m hd ls st) := by
    intro n
    induction n with
    | zero => intro a1 a2 a3 a4 a5 a6 a7 a8 a9 ls H locs _ h; exact absurd h (Nat.not_lt_zero _)
    | succ n ih =>
      intro a1 a2 a3 a4 a5 a6 a7 a8 a9 ls H locs hI h
      exact step a1 a2 a3 a4 a5 a6 a7 a8 a9 ls H locs hI (fun b1 b2 b3 b4 b5 b6 b7 b8 b9 ls' H' locs' hI' h' => ih b1 b2 b3 b4 b5 b6 b7 b8 b9 ls' H' locs' hI' (by omega))
  intro a1 a2 a3 a4 a5 a6 a7 a8 a9 ls H locs hI
  exact key _ a1 a2 a3 a4 a5 a6 a7 a8 a9 ls H locs hI (Nat.lt_succ_self _)

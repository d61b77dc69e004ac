/-! THE CLAIM OUT OF ONE WALK OF THE LAW'S BODY. Your part is whole_start (and what it stands on); all else here is the same for every law, but numbers. -/
def R_law : String := "TempoMapsLaw"
def lw_P (b : Addr) (xs : List Int32) (args : Array Value) (s : State) : Prop := args = #[.ref b] ∧ s.IntsAt b xs ∧ xs.length ≤ 2560 ∧ (Jvm.Cond.and given_1 narrow_1).before args s = true
def lw_Q (_ : Array Value) (s : State) (o : Outcome) (t : State) : Prop := o = .returned (some (.int 1)) ∧ Framed s o t [] 20 545
def lw_Z (below : List Frame) (a : Array Value) (s : State) : State → Prop := fun t => ∃ o, t.status = .running ∧ Ended t below o ∧ lw_Q a s o t
/-- the law's own end, with 1 on the stack, nothing written that was there before, its room as the claim has it -/
theorem lw_ret {p : Program} {l : Launch} {e : Env} {s : State} {m : MethodId} {below : List Frame} {meth : Method} {c : Code} {b : Nat} (hx : p.tables.exec = Jvm.exec) (hb : c.code = code) (hr : meth.sig.returnType = ret) (hlocks : meth.locks = false) {pc : Nat} {H : Heap} {ls : Array Slot} (hdg : decode code pc = .ok (.ireturn, 1)) : W p l e room_1 s m #[Value.ref b] below meth c H [] 20 545 (lw_Z below #[Value.ref b] s) (F0 m pc ls [.int 1]) := by
  intro T hT X
  obtain ⟨fs, hret, hrun, hended, hW, hframe⟩ := X.leave (v := some (.int 1)) (hlocks := hlocks) (fun h => by rw [hr] at h; cases h)
  have hmeth' : T.vm.method? m = some meth := X.method'
  refine ⟨T.setFrames fs, ?_, .returned (some (.int 1)), hrun, hended, rfl, ⟨_, rfl⟩, hW, hframe⟩
  jvm_step X.here [X.here.top, hx, hb, hdg, hmeth', hr, ret, narrow_b1]
  (try refine ⟨rfl, ?_⟩); (try refine ⟨rfl, ?_⟩)
  first | (intro acts; rw [hret _ acts rfl rfl rfl]) | rw [hret _ _ rfl rfl rfl]
  exact Steps.refl _
/-- what holds at the law's entry: the machine, the code, the tables' words (any of lw_tbl by 'hts w (by decide +kernel)'), the script of L ints xs at the cell b, what the Statement gives of the start (any of its parts by flat_of_before) -/
def lw_At (p : Program) (s : State) (m : MethodId) (meth : Method) (c : Code) (b L : Nat) (xs : Nat → Int32) : Prop :=
  p.tables.exec = Jvm.exec ∧ c.code = code ∧ meth.sig.returnType = ret ∧ c.maxLocals = 4 ∧ s.vm.findClass R_law = some m.cls ∧ (∀ w ∈ lw_tbl, w.before #[Value.ref b] s = true) ∧ va_X b L xs s s.heap ∧ b < s.heap.size ∧ meth.locks = false ∧ (Jvm.Cond.and given_1 narrow_1).before #[Value.ref b] s = true
set_option maxHeartbeats 1000000 in
set_option maxRecDepth 100000 in
/-- the law's loop: at its head both sides hold the same -/
theorem law_loop {p : Program} {l : Launch} {e : Env} {s : State} {m : MethodId} {below : List Frame} {meth : Method} {c : Code} {b L : Nat} {xs : Nat → Int32} {G : va_G} {cI cL : ClassId} {qx qm qm1 qm2 qm3 qm4 qm5 qh qh1 qh2 qt qt1 qy qy1 qy2 qy3 qy4 qy5 qy6 qy7 : Nat} (C0 : lw_At p s m meth c b L xs) (C : LC p s m c b L xs G cI cL) : ∀ (v3 : Int32) (ls : Array Slot) (H : Heap) (locs : List Loc), ((0 ≤ v3.toInt ∧ v3.toInt ≤ (L : Int) + 5) ∧ Lq G cI cL (fun q : Nat => s.heap.size ≤ q) s b qx qm qm1 qm2 qm3 qm4 qm5 qh qh1 qh2 qt qt1 qy qy1 qy2 qy3 qy4 qy5 qy6 qy7 v3 ls H locs) → W p l e room_1 s m #[Value.ref b] below meth c H locs 20 545 (lw_Z below #[Value.ref b] s) (F0 m 18 ls []) := by
  obtain ⟨hx, hb, hr, hml, hown, hts, hX, hbl, hlocks, hgv⟩ := C0
  have hL : L ≤ 2560 := C.2.2.2.2.2.2.2.2.2
  have hA : ∀ q : Nat, s.heap.size ≤ q → (fun q : Nat => s.heap.size ≤ q) q := fun _ h => h
  have hbA : ¬ (fun q : Nat => s.heap.size ≤ q) b := Nat.not_le.mpr hbl
  have zi5 : ((5 : Int32)).toInt = 5 := by decide
  refine W_loop1 (fun (v3 : Int32) ls H locs => (0 ≤ v3.toInt ∧ v3.toInt ≤ (L : Int) + 5) ∧ Lq G cI cL (fun q : Nat => s.heap.size ≤ q) s b qx qm qm1 qm2 qm3 qm4 qm5 qh qh1 qh2 qt qt1 qy qy1 qy2 qy3 qy4 qy5 qy6 qy7 v3 ls H locs) (fun (v3 : Int32) => ((L : Int) + 5 - v3.toInt).toNat) (fun v3 ls H locs hI ih => ?_)
  obtain ⟨hv, hq⟩ := hI
  have KK : v3.toInt + 5 ≤ L → ∀ (ls : Array Slot) (H : Heap) (locs : List Loc), Lq G cI cL (fun q : Nat => s.heap.size ≤ q) s b qx qm qm1 qm2 qm3 qm4 qm5 qh qh1 qh2 qt qt1 qy qy1 qy2 qy3 qy4 qy5 qy6 qy7 v3 ls H locs → W p l e room_1 s m #[Value.ref b] below meth c H locs 20 545 (lw_Z below #[Value.ref b] s) (F0 m 721 ls []) := by
    intro hvl ls H locs hq
    obtain ⟨zm, kt, ks, kf, kl, ku, zh, gt, gu, zt, kp, zM, Mt, Ms, Mf, Ml, zH, Ht, Hu, zT, Tp, bg, nm, nh, nt, hP, hD, hS, hl, hLI⟩ := hq
    obtain ⟨x7, ex7⟩ : ∃ y : Int32, y = v3 + 5 := ⟨_, rfl⟩
    have tx7 : x7.toInt = v3.toInt + 5 := by rw [ex7]; exact ti_add rfl zi5 (by omega) (by omega)
    refine lv_iinc (v := x7) (lv' := [(3, .int x7), (0, .ref b), (1, .ref qx), (2, .ref qy)]) hx hb dL_law_721 hl (k := 3) rfl (by rw [ex7]; rfl) (by decide) rfl (fun ls hl => ?_)
    refine lv_goto (tgt := 18) hx hb dL_law_724 (by decide) ?_
    exact ih x7 ls _ _ ⟨by omega, zm, kt, ks, kf, kl, ku, zh, gt, gu, zt, kp, zM, Mt, Ms, Mf, Ml, zH, Ht, Hu, zT, Tp, bg, nm, nh, nt, hP, hD, hS, lv_sub hl [1, 2, 3, 0] rfl, hLI⟩ (show ((L : Int) + 5 - x7.toInt).toNat < ((L : Int) + 5 - v3.toInt).toNat by omega)
  have hq0 := hq
  obtain ⟨zm, kt, ks, kf, kl, ku, zh, gt, gu, zt, kp, zM, Mt, Ms, Mf, Ml, zH, Ht, Hu, zT, Tp, bg, nm, nh, nt, hP, hD, hS, hl, hLI⟩ := hq
  refine lv_iload_n hx hb dL_law_18 rfl (lv_at hl 3 rfl) ?_
  refine lv_aload_n hx hb dL_law_19 rfl (lv_at hl 0 rfl) ?_
  refine va_slen hx hb hX hbl hbA hS dL_law_20 ?_
  have tL : (Int32.ofNat L).toInt = (L : Int) := nI_toInt (n := L) (by omega)
  refine lv_iconst (v := 5) hx hb dL_law_21 (by decide) ?_
  refine lv_isub hx hb dL_law_22 ?_
  refine lv_topi (fun x22 ex22 => ?_)
  have tx22 : x22.toInt = (L : Int) - 5 := by rw [ex22]; exact ti_sub tL zi5 (by omega) (by omega)
  refine lv_icmp_gt (tgt := 727) hx hb dL_law_23 (by decide) (fun c23 => ?_) (fun c23 => ?_)
  · refine lv_iconst (v := 1) hx hb dL_law_727 (by decide) ?_
    refine va_forget (fun q hq => hS.2.2 q hq) ?_
    exact lw_ret hx hb hr hlocks dL_law_728
  · have k23 : v3.toInt ≤ x22.toInt := i_nlt rfl rfl c23
    have hvl : v3.toInt + 5 ≤ L := by omega
    have KK := KK hvl
    have hvv : 0 ≤ v3.toInt ∧ v3.toInt + 5 ≤ L := ⟨hv.1, hvl⟩
    refine lv_aload_n hx hb dL_law_26 rfl (lv_at hl 0 rfl) ?_
    refine lv_iload_n hx hb dL_law_27 rfl (lv_at hl 3 rfl) ?_
    refine va_sld hx hb hX hbl hbA hS (vi_in rfl (by omega) (by omega)) dL_law_28 ?_
    refine lv_bipush (v := 31) hx hb dL_law_29 (by decide) ?_
    refine lv_iand hx hb dL_law_31 ?_
    refine lv_topi (fun x31 ex31 => ?_)
    obtain ⟨j, hj, ej⟩ := pk_andE (xs v3.toNatClampNeg) (m := 31) 5 (by decide)
    have tx31 : x31.toInt = (j : Int) := by rw [ex31, ej]; exact nI_toInt (by omega)
    by_cases c32 : x31.toInt < 0 ∨ 16 < x31.toInt
    · refine lv_tableOut (tgt := 721) hx hb dL_law_32 c32 (by decide) ?_
      exact KK ls H locs hq0
    · have d32 : x31.toInt = 0 ∨ x31.toInt = 1 ∨ x31.toInt = 2 ∨ x31.toInt = 3 ∨ x31.toInt = 4 ∨ x31.toInt = 5 ∨ x31.toInt = 6 ∨ x31.toInt = 7 ∨ x31.toInt = 8 ∨ x31.toInt = 9 ∨ x31.toInt = 10 ∨ x31.toInt = 11 ∨ x31.toInt = 12 ∨ x31.toInt = 13 ∨ x31.toInt = 14 ∨ x31.toInt = 15 ∨ x31.toInt = 16 := by omega
      rcases d32 with d32 | d32 | d32 | d32 | d32 | d32 | d32 | d32 | d32 | d32 | d32 | d32 | d32 | d32 | d32 | d32 | d32
      · refine lv_tableIn (off := 84) (tgt := 116) hx hb dL_law_32 (by omega) (by omega) (by rw [d32]; rfl) (by decide) ?_
        exact lc_step C hA hbA hvv hq0 KK
      · refine lv_tableIn (off := 117) (tgt := 149) hx hb dL_law_32 (by omega) (by omega) (by rw [d32]; rfl) (by decide) ?_
        exact lc_slope C hA hbA hvv hq0 KK
      · refine lv_tableIn (off := 170) (tgt := 202) hx hb dL_law_32 (by omega) (by omega) (by rw [d32]; rfl) (by decide) ?_
        exact lc_modulate C hA hbA hvv hq0 KK
      · refine lv_tableIn (off := 213) (tgt := 245) hx hb dL_law_32 (by omega) (by omega) (by rw [d32]; rfl) (by decide) ?_
        exact lc_drop C hA hbA hvv hq0 KK
      · refine lv_tableIn (off := 236) (tgt := 268) hx hb dL_law_32 (by omega) (by omega) (by rw [d32]; rfl) (by decide) ?_
        exact lc_hold C hA hbA hvv hq0 KK
      · refine lv_tableIn (off := 269) (tgt := 301) hx hb dL_law_32 (by omega) (by omega) (by rw [d32]; rfl) (by decide) ?_
        exact lc_mark C hA hbA hvv hq0 KK
      · refine lv_tableIn (off := 302) (tgt := 334) hx hb dL_law_32 (by omega) (by omega) (by rw [d32]; rfl) (by decide) ?_
        exact lc_count C hA hbA hvv hq0 KK
      · refine lv_tableIn (off := 325) (tgt := 357) hx hb dL_law_32 (by omega) (by omega) (by rw [d32]; rfl) (by decide) ?_
        exact lc_lasts C hA hbA hvv hq0 KK
      · refine lv_tableIn (off := 348) (tgt := 380) hx hb dL_law_32 (by omega) (by omega) (by rw [d32]; rfl) (by decide) ?_
        exact lc_time C hA hbA hvv hq0 KK
      · refine lv_tableIn (off := 372) (tgt := 404) hx hb dL_law_32 (by omega) (by omega) (by rw [d32]; rfl) (by decide) ?_
        exact lc_tick C hA hbA hvv hq0 KK
      · refine lv_tableIn (off := 425) (tgt := 457) hx hb dL_law_32 (by omega) (by omega) (by rw [d32]; rfl) (by decide) ?_
        exact lc_held C hA hbA hvv hq0 KK
      · refine lv_tableIn (off := 478) (tgt := 510) hx hb dL_law_32 (by omega) (by omega) (by rw [d32]; rfl) (by decide) ?_
        exact lc_frame C hA hbA hvv hq0 KK
      · refine lv_tableIn (off := 512) (tgt := 544) hx hb dL_law_32 (by omega) (by omega) (by rw [d32]; rfl) (by decide) ?_
        exact lc_tickOf C hA hbA hvv hq0 KK
      · refine lv_tableIn (off := 575) (tgt := 607) hx hb dL_law_32 (by omega) (by omega) (by rw [d32]; rfl) (by decide) ?_
        exact lc_tap C hA hbA hvv hq0 KK
      · refine lv_tableIn (off := 628) (tgt := 660) hx hb dL_law_32 (by omega) (by omega) (by rw [d32]; rfl) (by decide) ?_
        exact lc_noTaps C hA hbA hvv hq0 KK
      · refine lv_tableIn (off := 641) (tgt := 673) hx hb dL_law_32 (by omega) (by omega) (by rw [d32]; rfl) (by decide) ?_
        exact lc_fit C hA hbA hvv hq0 KK
      · refine lv_tableIn (off := 665) (tgt := 697) hx hb dL_law_32 (by omega) (by omega) (by rw [d32]; rfl) (by decide) ?_
        exact lc_pace C hA hbA hvv hq0 KK

/-! the marks of both sides are the same rows -/
def sameM (n : Nat) (t s f l t' s' f' l' : Nat → Int32) : Prop := (∀ k : Nat, k < n → ∃ j : Nat, j < n ∧ rowEq t s f l k t' s' f' l' j) ∧ (∀ j : Nat, j < n → ∃ k : Nat, k < n ∧ rowEq t s f l k t' s' f' l' j)
theorem okM_same {n : Nat} {t s f l t' s' f' l' : Nat → Int32} (hO : okM n t s f l) (h : sameM n t s f l t' s' f' l') (inj : ∀ i j : Nat, i < n → j < n → (t' i).toInt = (t' j).toInt → i = j) : okM n t' s' f' l' := by
  refine ⟨hO.1, fun k hk => ?_, inj, fun i j hi hj hij => ?_⟩
  · obtain ⟨i, hi, e1, e2, e3, e4⟩ := h.2 k hk
    rw [e1, e2, e3, e4]; exact hO.2.1 i hi
  · obtain ⟨a, ha, e1, e2, -⟩ := h.2 i hi
    obtain ⟨b, hb, g1, -⟩ := h.2 j hj
    rw [e1, g1] at hij
    rw [e1, e2, g1]; exact hO.2.2.2 a b ha hb hij
theorem pace_same {n : Nat} {t s f l t' s' f' l' : Nat → Int32} (hO : okM n t s f l) (hO' : okM n t' s' f' l') (h : sameM n t s f l t' s' f' l') : paceF t s f l n = paceF t' s' f' l' n := by
  funext y
  exact pace_below (X := y + 1) hO.2.2.1 hO'.2.2.1 (fun k hk _ => h.1 k hk) (fun k hk _ => h.2 k hk) (by omega)
theorem ins_same {n : Nat} {t s f l t' s' f' l' : Nat → Int32} (h : sameM n t s f l t' s' f' l') (x : Int) : insS n t s x ↔ insS n t' s' x := by
  constructor
  · rintro ⟨k, hk, h1, h2⟩
    obtain ⟨j, hj, e1, e2, -⟩ := h.1 k hk
    exact ⟨j, hj, by omega, by omega⟩
  · rintro ⟨j, hj, h1, h2⟩
    obtain ⟨k, hk, e1, e2, -⟩ := h.2 j hj
    exact ⟨k, hk, by omega, by omega⟩
theorem btw_same {n : Nat} {t s f l t' s' f' l' : Nat → Int32} (h : sameM n t s f l t' s' f' l') (a b : Int) : btw n t a b ↔ btw n t' a b := by
  constructor
  · rintro ⟨k, hk, h1, h2⟩
    obtain ⟨j, hj, e1, -⟩ := h.1 k hk
    exact ⟨j, hj, by omega, by omega⟩
  · rintro ⟨j, hj, h1, h2⟩
    obtain ⟨k, hk, e1, -⟩ := h.2 j hj
    exact ⟨k, hk, by omega, by omega⟩
theorem hit_same {n : Nat} {t s f l t' s' f' l' : Nat → Int32} (h : sameM n t s f l t' s' f' l') {x : Int} (hn : ∀ k : Nat, k < n → (t k).toInt ≠ x) : hfind t' x n = -1 := by
  have hr := hfind_rng (t := t') (x := x) n
  rcases Int.lt_or_le (hfind t' x n) 0 with q | q
  · omega
  · obtain ⟨k, hk, e1, -⟩ := h.2 (hfind t' x n).toNat (by omega)
    have := hn k hk
    have := hr.2.2 q
    omega
theorem rel_put {n : Nat} {t s f l t' s' f' l' : Nat → Int32} {x sv fv lv : Int32} {r r' : Int} {m m' : Nat} {T S F K T' S' F' K' : Nat → Int32} (hO : okM n t s f l) (hO' : okM n t' s' f' l') (h : sameM n t s f l t' s' f' l')
    (hc : cPut n t s f l x sv fv lv r m T S F K) (hp : pPut n t' s' f' l' x sv fv lv r' m' T' S' F' K') (hOn : okM m T S F K) : r = r' ∧ m' = m ∧ sameM m T S F K T' S' F' K' ∧ okM m T' S' F' K' := by
  have hr := hfind_rng (t := t') (x := x.toInt) n
  rcases hc with ⟨j, hj, ej, c1, c2, c3, c4, c5, c6⟩ | ⟨cn, c0, c1, c2, c3, c4, c5, c6⟩ | ⟨j, hj, cn, c0, c1, c2, c3, c4, c5, c6⟩
  · obtain ⟨i, hi, e1, e2, e3, e4⟩ := h.1 j hj
    have hq : 0 ≤ hfind t' x.toInt n := by
      rcases Int.lt_or_le (hfind t' x.toInt n) 0 with q | q
      · exact absurd (by omega) (hfind_none (t := t') (x := x.toInt) n (by omega) i hi)
      · exact q
    rcases hp with ⟨p0, p1, p2, p3, p4, p5, p6⟩ | ⟨p0, -⟩ | ⟨p0, -⟩
    · have ei : (hfind t' x.toInt n).toNat = i := hO'.2.2.1 _ _ (by omega) hi (by rw [hr.2.2 hq, e1, ej])
      rw [ei] at p3 p4 p5 p6
      subst c2 c3 c4 c5 c6 p2 p3 p4 p5 p6
      have tx : upd t j x = t := upd_same (i_ext ej)
      have tx' : upd t' i x = t' := upd_same (i_ext (by rw [e1, ej]))
      rw [tx, tx']
      rw [tx] at hOn
      have hs : sameM m' t (upd s j sv) (upd f j fv) (upd l j lv) t' (upd s' i sv) (upd f' i fv) (upd l' i lv) := by
        constructor
        · intro k hk
          by_cases e : k = j
          · subst e
            exact ⟨i, hi, e1, by rw [pk_us, pk_us], by rw [pk_us, pk_us], by rw [pk_us, pk_us]⟩
          · obtain ⟨a, ha, g1, g2, g3, g4⟩ := h.1 k hk
            have ne : a ≠ i := fun q => by
              subst q
              exact e (hO.2.2.1 k j hk hj (by omega))
            exact ⟨a, ha, g1, by rw [pk_un ne, pk_un e]; exact g2, by rw [pk_un ne, pk_un e]; exact g3, by rw [pk_un ne, pk_un e]; exact g4⟩
        · intro a ha
          by_cases e : a = i
          · subst e
            exact ⟨j, hj, e1, by rw [pk_us, pk_us], by rw [pk_us, pk_us], by rw [pk_us, pk_us]⟩
          · obtain ⟨k, hk, g1, g2, g3, g4⟩ := h.2 a ha
            have ne : k ≠ j := fun q => by
              subst q
              exact e (hO'.2.2.1 a i ha hi (by omega))
            exact ⟨k, hk, g1, by rw [pk_un ne, pk_un e]; exact g2, by rw [pk_un ne, pk_un e]; exact g3, by rw [pk_un ne, pk_un e]; exact g4⟩
      exact ⟨by omega, rfl, hs, okM_same hOn hs hO'.2.2.1⟩
    · omega
    · omega
  · have hq := hit_same h cn
    rcases hp with ⟨p0, -⟩ | ⟨-, -, p1, p2, p3, p4, p5, p6⟩ | ⟨-, p0, -⟩
    · omega
    · subst c2 c3 c4 c5 c6 p2 p3 p4 p5 p6
      exact ⟨by omega, rfl, h, hO'⟩
    · omega
  · have hq := hit_same h cn
    rcases hp with ⟨p0, -⟩ | ⟨-, p0, -⟩ | ⟨-, -, p1, p2, p3, p4, p5, p6⟩
    · omega
    · omega
    · subst c2 c3 c4 c5 c6 p2 p3 p4 p5 p6
      have hne := hfind_none (t := t') (x := x.toInt) n hq
      have hs : sameM (n + 1) (insA t j n x) (insA s j n sv) (insA f j n fv) (insA l j n lv) (upd t' n x) (upd s' n sv) (upd f' n fv) (upd l' n lv) := by
        constructor
        · intro k hk
          rcases ins_row (t := t) (s := s) (f := f) (l := l) (xv := x) (sv := sv) (fv := fv) (lv := lv) hj k hk with ⟨a1, a2, g1, g2, g3, g4⟩ | ⟨a1, g1, g2, g3, g4⟩ | ⟨i, a1, a2, a3, g1, g2, g3, g4⟩
          · obtain ⟨a, ha, q1, q2, q3, q4⟩ := h.1 k a2
            exact ⟨a, by omega, by rw [pk_un (by omega), g1]; exact q1, by rw [pk_un (by omega), g2]; exact q2, by rw [pk_un (by omega), g3]; exact q3, by rw [pk_un (by omega), g4]; exact q4⟩
          · exact ⟨n, by omega, by rw [pk_us, g1], by rw [pk_us, g2], by rw [pk_us, g3], by rw [pk_us, g4]⟩
          · obtain ⟨a, ha, q1, q2, q3, q4⟩ := h.1 i a2
            exact ⟨a, by omega, by rw [pk_un (by omega), g1]; exact q1, by rw [pk_un (by omega), g2]; exact q2, by rw [pk_un (by omega), g3]; exact q3, by rw [pk_un (by omega), g4]; exact q4⟩
        · intro a ha
          by_cases e : a = n
          · subst e
            exact ⟨j, by omega, by rw [pk_us, insA_eq], by rw [pk_us, insA_eq], by rw [pk_us, insA_eq], by rw [pk_us, insA_eq]⟩
          · obtain ⟨k, hk, q1, q2, q3, q4⟩ := h.2 a (by omega)
            rcases Nat.lt_or_ge k j with c | c
            · exact ⟨k, by omega, by rw [pk_un e, insA_lt c]; exact q1, by rw [pk_un e, insA_lt c]; exact q2, by rw [pk_un e, insA_lt c]; exact q3, by rw [pk_un e, insA_lt c]; exact q4⟩
            · exact ⟨k + 1, by omega, by rw [pk_un e, insA_gt c hk]; exact q1, by rw [pk_un e, insA_gt c hk]; exact q2, by rw [pk_un e, insA_gt c hk]; exact q3, by rw [pk_un e, insA_gt c hk]; exact q4⟩
      refine ⟨by omega, rfl, hs, okM_same hOn hs (fun a b ha hb hab => ?_)⟩
      by_cases ea : a = n <;> by_cases eb : b = n
      · omega
      · rw [ea, pk_us, pk_un eb] at hab
        exact absurd hab.symm (hne b (by omega))
      · rw [eb, pk_us, pk_un ea] at hab
        exact absurd hab (hne a (by omega))
      · rw [pk_un ea, pk_un eb] at hab
        exact hO'.2.2.1 a b (by omega) (by omega) hab
theorem rel_ins {n : Nat} {t s f l t' s' f' l' : Nat → Int32} {x sv fv lv : Int32} {r r' : Int} {m m' : Nat} {T S F K T' S' F' K' : Nat → Int32} (hO : okM n t s f l) (hO' : okM n t' s' f' l') (h : sameM n t s f l t' s' f' l')
    (hc : cIns n t s f l x sv fv lv r m T S F K) (hp : pIns n t' s' f' l' x sv fv lv r' m' T' S' F' K') (hOn : okM m T S F K) : r = r' ∧ m' = m ∧ sameM m T S F K T' S' F' K' ∧ okM m T' S' F' K' := by
  have h1 := ins_same h x.toInt
  have h2 := btw_same h x.toInt (x.toInt + sv.toInt)
  rcases hc with ⟨c0, c1, c2, c3, c4, c5, c6⟩ | ⟨c0, c1, c2⟩ <;> rcases hp with ⟨p0, p1, p2, p3, p4, p5, p6⟩ | ⟨p0, p1, p2⟩
  · subst c2 c3 c4 c5 c6 p2 p3 p4 p5 p6
    exact ⟨by omega, rfl, h, hO'⟩
  · rcases c0 with c | c
    · exact absurd (h1.mp c) p0
    · exact absurd (h2.mp c) p1
  · rcases p0 with c | c
    · exact absurd (h1.mpr c) c0
    · exact absurd (h2.mpr c) c1
  · exact rel_put hO hO' h c2 p2 hOn
theorem rel_step {n : Nat} {t s f l t' s' f' l' : Nat → Int32} {x p : Int32} {r r' : Int} {m m' : Nat} {T S F K T' S' F' K' : Nat → Int32} (hO : okM n t s f l) (hO' : okM n t' s' f' l') (h : sameM n t s f l t' s' f' l')
    (hc : cStep n t s f l x p r m T S F K) (hp : pStep n t' s' f' l' x p r' m' T' S' F' K') (hOn : okM m T S F K) : r = r' ∧ m' = m ∧ sameM m T S F K T' S' F' K' ∧ okM m T' S' F' K' := by
  rcases hc with ⟨c0, c1, c2, c3, c4, c5, c6⟩ | ⟨c0, c1⟩ <;> rcases hp with ⟨p0, p1, p2, p3, p4, p5, p6⟩ | ⟨p0, p1⟩
  · subst c2 c3 c4 c5 c6 p2 p3 p4 p5 p6
    exact ⟨by omega, rfl, h, hO'⟩
  · omega
  · omega
  · exact rel_ins hO hO' h c1 p1 hOn
theorem rel_slope {n : Nat} {t s f l t' s' f' l' : Nat → Int32} {x k p q : Int32} {r r' : Int} {m m' : Nat} {T S F K T' S' F' K' : Nat → Int32} (hO : okM n t s f l) (hO' : okM n t' s' f' l') (h : sameM n t s f l t' s' f' l')
    (hc : cSlope n t s f l x k p q r m T S F K) (hp : pSlope n t' s' f' l' x k p q r' m' T' S' F' K') (hOn : okM m T S F K) : r = r' ∧ m' = m ∧ sameM m T S F K T' S' F' K' ∧ okM m T' S' F' K' := by
  rcases hc with ⟨c0, c1, c2, c3, c4, c5, c6⟩ | ⟨c0, c1⟩ <;> rcases hp with ⟨p0, p1, p2, p3, p4, p5, p6⟩ | ⟨p0, p1⟩
  · subst c2 c3 c4 c5 c6 p2 p3 p4 p5 p6
    exact ⟨by omega, rfl, h, hO'⟩
  · omega
  · omega
  · exact rel_ins hO hO' h c1 p1 hOn
theorem rel_mod {P : Int → Int} {n : Nat} {t s f l t' s' f' l' : Nat → Int32} {x u v : Int32} {r r' : Int} {m m' : Nat} {T S F K T' S' F' K' : Nat → Int32} (hO : okM n t s f l) (hO' : okM n t' s' f' l') (h : sameM n t s f l t' s' f' l')
    (hc : cMod P n t s f l x u v r m T S F K) (hp : pMod P n t' s' f' l' x u v r' m' T' S' F' K') (hOn : okM m T S F K) : r = r' ∧ m' = m ∧ sameM m T S F K T' S' F' K' ∧ okM m T' S' F' K' := by
  rcases hc with ⟨c0, c1, c2, c3, c4, c5, c6⟩ | ⟨c0, ⟨c7, c1, c2, c3, c4, c5, c6⟩ | ⟨w, q, c1, c2, c3, c4, c5⟩⟩ <;> rcases hp with ⟨p0, p1, p2, p3, p4, p5, p6⟩ | ⟨p0, ⟨p7, p1, p2, p3, p4, p5, p6⟩ | ⟨w', q', p1, p2, p3, p4, p5⟩⟩
  · subst c2 c3 c4 c5 c6 p2 p3 p4 p5 p6
    exact ⟨by omega, rfl, h, hO'⟩
  · omega
  · omega
  · omega
  · subst c2 c3 c4 c5 c6 p2 p3 p4 p5 p6
    exact ⟨by omega, rfl, h, hO'⟩
  · omega
  · omega
  · omega
  · have ew : w' = w := i_ext (by omega)
    subst ew
    obtain ⟨h1, h2, h3, h4⟩ := rel_ins hO hO' h c4 p4 hOn
    exact ⟨by omega, h2, h3, h4⟩
theorem rel_del {n : Nat} {t s f l t' s' f' l' : Nat → Int32} {x : Int32} {r r' : Int} {m m' : Nat} {T S F K T' S' F' K' : Nat → Int32} (hO : okM n t s f l) (hO' : okM n t' s' f' l') (h : sameM n t s f l t' s' f' l')
    (hc : cDel n t s f l x r m T S F K) (hp : pDel n t' s' f' l' x r' m' T' S' F' K') (hOn : okM m T S F K) : r = r' ∧ m' = m ∧ sameM m T S F K T' S' F' K' ∧ okM m T' S' F' K' := by
  have hr := hfind_rng (t := t') (x := x.toInt) n
  rcases hc with ⟨j, hj, ej, c1, c2, c3, c4, c5, c6⟩ | ⟨cn, c1, c2, c3, c4, c5, c6⟩
  · obtain ⟨i, hi, e1, -⟩ := h.1 j hj
    have hq : 0 ≤ hfind t' x.toInt n := by
      rcases Int.lt_or_le (hfind t' x.toInt n) 0 with q | q
      · exact absurd (by omega) (hfind_none (t := t') (x := x.toInt) n (by omega) i hi)
      · exact q
    rcases hp with ⟨p0, p1, p2, p3, p4, p5, p6⟩ | ⟨p0, -⟩
    · have ei : (hfind t' x.toInt n).toNat = i := hO'.2.2.1 _ _ (by omega) hi (by rw [hr.2.2 hq, e1, ej])
      rw [ei] at p3 p4 p5 p6
      have em : m' = m := by omega
      subst em
      subst c3 c4 c5 c6 p3 p4 p5 p6
      have inj : ∀ a b : Nat, a < m' → b < m' → (upd t' i (t' m') a).toInt = (upd t' i (t' m') b).toInt → a = b := by
        intro a b ha hb hab
        by_cases ea : a = i <;> by_cases eb : b = i
        · omega
        · rw [ea, pk_us, pk_un eb] at hab
          have := hO'.2.2.1 m' b (by omega) (by omega) hab; omega
        · rw [eb, pk_us, pk_un ea] at hab
          have := hO'.2.2.1 a m' (by omega) (by omega) hab; omega
        · rw [pk_un ea, pk_un eb] at hab
          exact hO'.2.2.1 a b (by omega) (by omega) hab
      have hs : sameM m' (shL t j n) (shL s j n) (shL f j n) (shL l j n) (upd t' i (t' m')) (upd s' i (s' m')) (upd f' i (f' m')) (upd l' i (l' m')) := by
        constructor
        · intro k hk
          obtain ⟨k0, k1, k2, -, -, g1, g2, g3, g4⟩ := del_row (t := t) (s := s) (f := f) (l := l) (p := j) c2 k hk
          obtain ⟨a, ha, q1, q2, q3, q4⟩ := h.1 k0 k1
          have ai : a ≠ i := fun q => by
            subst q
            exact k2 (hO.2.2.1 k0 j k1 hj (by omega))
          by_cases el : a = m'
          · subst el
            exact ⟨i, by omega, by rw [pk_us, g1]; exact q1, by rw [pk_us, g2]; exact q2, by rw [pk_us, g3]; exact q3, by rw [pk_us, g4]; exact q4⟩
          · exact ⟨a, by omega, by rw [pk_un ai, g1]; exact q1, by rw [pk_un ai, g2]; exact q2, by rw [pk_un ai, g3]; exact q3, by rw [pk_un ai, g4]; exact q4⟩
        · intro a ha
          have key : ∀ z : Nat, z < n → z ≠ i → ∃ k : Nat, k < m' ∧ (t' z).toInt = (shL t j n k).toInt ∧ (s' z).toInt = (shL s j n k).toInt ∧ (f' z).toInt = (shL f j n k).toInt ∧ (l' z).toInt = (shL l j n k).toInt := by
            intro z hz zi
            obtain ⟨k, hk, q1, q2, q3, q4⟩ := h.2 z hz
            have kj : k ≠ j := fun q => by
              subst q
              exact zi (hO'.2.2.1 z i hz hi (by omega))
            rcases Nat.lt_or_ge k j with c | c
            · exact ⟨k, by omega, by rw [shL_lt c]; exact q1, by rw [shL_lt c]; exact q2, by rw [shL_lt c]; exact q3, by rw [shL_lt c]; exact q4⟩
            · obtain ⟨k', rfl⟩ : ∃ k', k = k' + 1 := ⟨k - 1, by omega⟩
              exact ⟨k', by omega, by rw [shL_ge (by omega) (by omega)]; exact q1, by rw [shL_ge (by omega) (by omega)]; exact q2, by rw [shL_ge (by omega) (by omega)]; exact q3, by rw [shL_ge (by omega) (by omega)]; exact q4⟩
          by_cases e : a = i
          · subst e
            obtain ⟨k, hk, q1, q2, q3, q4⟩ := key m' (by omega) (by omega)
            exact ⟨k, hk, by rw [pk_us]; exact q1, by rw [pk_us]; exact q2, by rw [pk_us]; exact q3, by rw [pk_us]; exact q4⟩
          · obtain ⟨k, hk, q1, q2, q3, q4⟩ := key a (by omega) e
            exact ⟨k, hk, by rw [pk_un e]; exact q1, by rw [pk_un e]; exact q2, by rw [pk_un e]; exact q3, by rw [pk_un e]; exact q4⟩
      exact ⟨by omega, rfl, hs, okM_same hOn hs inj⟩
    · omega
  · have hq := hit_same h cn
    rcases hp with ⟨p0, -⟩ | ⟨-, p1, p2, p3, p4, p5, p6⟩
    · omega
    · subst c2 c3 c4 c5 c6 p2 p3 p4 p5 p6
      exact ⟨by omega, rfl, h, hO'⟩
/-! how many are below -/
theorem cnt_list {t : Nat → Int32} {x : Int} : ∀ n : Nat, cntL t x n = (((List.range n).map (fun k => (t k).toInt)).countP (fun y => decide (y < x)) : Nat) := by
  intro n
  induction n with
  | zero => rfl
  | succ n ih =>
    rw [List.range_succ, List.map_append, List.countP_append]
    simp only [cntL]
    rw [ih]
    by_cases h : (t n).toInt < x
    · simp [h]
    · simp [h]
theorem cnt_nd {t : Nat → Int32} {n : Nat} (inj : ∀ i j : Nat, i < n → j < n → (t i).toInt = (t j).toInt → i = j) : ((List.range n).map (fun k => (t k).toInt)).Nodup := by
  rw [List.Nodup, List.pairwise_map]
  refine List.Pairwise.imp_of_mem ?_ List.nodup_range
  intro a b ha hb hne e
  exact hne (inj a b (List.mem_range.mp ha) (List.mem_range.mp hb) e)
theorem cnt_same {n : Nat} {t s f l t' s' f' l' : Nat → Int32} (hO : okM n t s f l) (hO' : okM n t' s' f' l') (h : sameM n t s f l t' s' f' l') (x : Int) : cntL t x n = cntL t' x n := by
  rw [cnt_list, cnt_list]
  congr 1
  refine List.Perm.countP_eq _ ?_
  rw [List.perm_ext_iff_of_nodup (cnt_nd hO.2.2.1) (cnt_nd hO'.2.2.1)]
  intro a
  simp only [List.mem_map, List.mem_range]
  constructor
  · rintro ⟨k, hk, e⟩
    obtain ⟨j, hj, e1, -⟩ := h.1 k hk
    exact ⟨j, hj, by omega⟩
  · rintro ⟨j, hj, e⟩
    obtain ⟨k, hk, e1, -⟩ := h.2 j hj
    exact ⟨k, hk, by omega⟩
theorem cnt_srt {n : Nat} {t : Nat → Int32} (h : srt n t) {i : Nat} (hi : i < n) : cntL t (t i).toInt n = i := by
  have key : ∀ m : Nat, m ≤ n → cntL t (t i).toInt m = min (m : Int) i := by
    intro m
    induction m with
    | zero => intro _; simp [cntL]; omega
    | succ m ih =>
      intro hm
      simp only [cntL]
      rw [ih (by omega)]
      rcases Nat.lt_or_ge m i with q | q
      · have := h m i q hi
        rw [if_pos this]; omega
      · have := srt_le h q (by omega)
        rw [if_neg (by omega)]; omega
  rw [key n (by omega)]; omega
theorem cnt_ex {n : Nat} {t s f l t' s' f' l' : Nat → Int32} (hO : okM n t s f l) (hO' : okM n t' s' f' l') (hs : srt n t) (h : sameM n t s f l t' s' f' l') : ∀ i : Nat, i < n → ∃ k : Nat, k < n ∧ cntL t' (t' k).toInt n = i := by
  intro i hi
  obtain ⟨j, hj, e1, -⟩ := h.1 i hi
  exact ⟨j, hj, by rw [← cnt_same hO hO' h, e1]; exact cnt_srt hs hi⟩
theorem cnt_row {n : Nat} {t s f l t' s' f' l' : Nat → Int32} (hO : okM n t s f l) (hO' : okM n t' s' f' l') (hs : srt n t) (h : sameM n t s f l t' s' f' l') {i j : Nat} (hj : j < n) (e : cntL t' (t' j).toInt n = i) (w : Int) : tellV t s f l i w = tellV t' s' f' l' j w := by
  obtain ⟨k, hk, e1, e2, e3, e4⟩ := h.2 j hj
  rw [← cnt_same hO hO' h, e1, cnt_srt hs hk] at e
  have ek : k = i := by omega
  subst ek
  unfold tellV
  rw [e1, e2, e3, e4]

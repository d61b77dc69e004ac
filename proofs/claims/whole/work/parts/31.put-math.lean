def rowEq (t s f l : Nat → Int32) (k : Nat) (t' s' f' l' : Nat → Int32) (k' : Nat) : Prop := (t' k').toInt = (t k).toInt ∧ (s' k').toInt = (s k).toInt ∧ (f' k').toInt = (f k).toInt ∧ (l' k').toInt = (l k).toInt
theorem pace_below {t s f l t' s' f' l' : Nat → Int32} {n n' : Nat} {X : Int} (inj : ∀ i j : Nat, i < n → j < n → (t i).toInt = (t j).toInt → i = j) (inj' : ∀ i j : Nat, i < n' → j < n' → (t' i).toInt = (t' j).toInt → i = j)
    (h1 : ∀ k : Nat, k < n → (t k).toInt < X → ∃ k' : Nat, k' < n' ∧ rowEq t s f l k t' s' f' l' k') (h2 : ∀ k' : Nat, k' < n' → (t' k').toInt < X → ∃ k : Nat, k < n ∧ rowEq t s f l k t' s' f' l' k') {y : Int} (hy : y < X) : paceF t s f l n y = paceF t' s' f' l' n' y := by
  rcases bi_spec (t := t) (x := y) n with ⟨-, h⟩ | ⟨j, hj, -, g1, g2⟩
  · rw [pace_none h, pace_none (fun k' hk' => ?_)]
    rcases Int.lt_or_le y (t' k').toInt with q | q
    · exact q
    · obtain ⟨k, hk, e, -⟩ := h2 k' hk' (by omega)
      have := h k hk; omega
  · obtain ⟨j', hj', e1, e2, e3, e4⟩ := h1 j hj (by omega)
    rw [pace_at inj hj g1 g2, pace_at inj' hj' (by omega) (fun k' hk' hx => ?_), e1, e2, e3, e4]
    obtain ⟨k, hk, e, -⟩ := h2 k' hk' (by omega)
    have := g2 k hk (by omega); omega
def insA (a : Nat → Int32) (j n : Nat) (v : Int32) : Nat → Int32 := upd (shR a j n) j v
theorem insA_lt {a : Nat → Int32} {j n k : Nat} {v : Int32} (h : k < j) : insA a j n v k = a k := by
  unfold insA
  rw [pk_un (by omega)]
  simp only [shR]
  rw [if_neg (by omega)]
theorem insA_eq {a : Nat → Int32} {j n : Nat} {v : Int32} : insA a j n v j = v := pk_us
theorem insA_gt {a : Nat → Int32} {j n k : Nat} {v : Int32} (h : j ≤ k) (h2 : k < n) : insA a j n v (k + 1) = a k := by
  unfold insA
  rw [pk_un (by omega)]
  simp only [shR]
  rw [if_pos (by omega)]; rfl
theorem ins_row {t s f l : Nat → Int32} {j n : Nat} {xv sv fv lv : Int32} (hj : j ≤ n) (k : Nat) (hk : k < n + 1) :
    (k < j ∧ k < n ∧ insA t j n xv k = t k ∧ insA s j n sv k = s k ∧ insA f j n fv k = f k ∧ insA l j n lv k = l k) ∨
    (k = j ∧ insA t j n xv k = xv ∧ insA s j n sv k = sv ∧ insA f j n fv k = fv ∧ insA l j n lv k = lv) ∨
    (∃ i : Nat, k = i + 1 ∧ i < n ∧ j ≤ i ∧ insA t j n xv k = t i ∧ insA s j n sv k = s i ∧ insA f j n fv k = f i ∧ insA l j n lv k = l i) := by
  rcases Nat.lt_trichotomy k j with q | q | q
  · exact Or.inl ⟨q, by omega, insA_lt q, insA_lt q, insA_lt q, insA_lt q⟩
  · subst q; exact Or.inr (Or.inl ⟨rfl, insA_eq, insA_eq, insA_eq, insA_eq⟩)
  · obtain ⟨i, rfl⟩ : ∃ i, k = i + 1 := ⟨k - 1, by omega⟩
    exact Or.inr (Or.inr ⟨i, rfl, by omega, by omega, insA_gt (by omega) (by omega), insA_gt (by omega) (by omega), insA_gt (by omega) (by omega), insA_gt (by omega) (by omega)⟩)
theorem put_ins {t s f l : Nat → Int32} {j n : Nat} {xv sv fv lv : Int32} (hO : okM n t s f l) (hs : srt n t) (hn : n < 40) (hj : j ≤ n) (hlo : ∀ k : Nat, k < n → k < j → (t k).toInt < xv.toInt) (hhi : ∀ k : Nat, k < n → j ≤ k → xv.toInt < (t k).toInt)
    (hx : 0 ≤ xv.toInt ∧ xv.toInt ≤ 999999) (hsv : 0 ≤ sv.toInt ∧ sv.toInt ≤ 2000) (hxs : xv.toInt + sv.toInt ≤ 1000000) (hfv : 1 ≤ fv.toInt ∧ fv.toInt ≤ 1000000) (hlv : 1 ≤ lv.toInt ∧ lv.toInt ≤ 1000000)
    (hni : ¬ insS n t s xv.toInt) (hnb : ¬ btw n t xv.toInt (xv.toInt + sv.toInt)) :
    okM (n + 1) (insA t j n xv) (insA s j n sv) (insA f j n fv) (insA l j n lv) ∧ srt (n + 1) (insA t j n xv) ∧ ∀ y : Int, y < xv.toInt → paceF t s f l n y = paceF (insA t j n xv) (insA s j n sv) (insA f j n fv) (insA l j n lv) (n + 1) y := by
  have hS : srt (n + 1) (insA t j n xv) := by
    intro a b hab hb
    rcases ins_row (t := t) (s := s) (f := f) (l := l) (xv := xv) (sv := sv) (fv := fv) (lv := lv) hj a (by omega) with ⟨a1, a2, a3, -⟩ | ⟨a1, a3, -⟩ | ⟨i, a1, a2, a4, a3, -⟩ <;>
    rcases ins_row (t := t) (s := s) (f := f) (l := l) (xv := xv) (sv := sv) (fv := fv) (lv := lv) hj b (by omega) with ⟨b1, b2, b3, -⟩ | ⟨b1, b3, -⟩ | ⟨i', b1, b2, b4, b3, -⟩ <;> rw [a3, b3]
    · exact hs a b hab b2
    · exact hlo a a2 a1
    · exact hs a i' (by omega) b2
    · omega
    · omega
    · exact hhi i' b2 b4
    · omega
    · omega
    · exact hs i i' (by omega) b2
  have inj := srt_inj hS
  refine ⟨⟨by omega, fun k hk => ?_, inj, fun a b ha hb hab => ?_⟩, hS, fun y hy => ?_⟩
  · rcases ins_row (t := t) (s := s) (f := f) (l := l) (xv := xv) (sv := sv) (fv := fv) (lv := lv) hj k hk with ⟨a1, a2, e1, e2, e3, e4⟩ | ⟨a1, e1, e2, e3, e4⟩ | ⟨i, a1, a2, a3, e1, e2, e3, e4⟩ <;> rw [e1, e2, e3, e4]
    · exact hO.2.1 k a2
    · omega
    · exact hO.2.1 i a2
  · rcases ins_row (t := t) (s := s) (f := f) (l := l) (xv := xv) (sv := sv) (fv := fv) (lv := lv) hj a ha with ⟨a1, a2, e1, e2, -⟩ | ⟨a1, e1, e2, -⟩ | ⟨i, a1, a2, a3, e1, e2, -⟩ <;>
    rcases ins_row (t := t) (s := s) (f := f) (l := l) (xv := xv) (sv := sv) (fv := fv) (lv := lv) hj b hb with ⟨b1, b2, g1, -⟩ | ⟨b1, g1, -⟩ | ⟨i', b1, b2, b3, g1, -⟩ <;> rw [e1, g1] at hab <;> rw [e1, e2, g1]
    · exact hO.2.2.2 a b a2 b2 hab
    · rcases Int.lt_or_le xv.toInt ((t a).toInt + (s a).toInt) with q | q
      · exact absurd ⟨a, a2, hab, q⟩ hni
      · exact q
    · exact hO.2.2.2 a i' a2 b2 hab
    · have := hlo b b2 b1; omega
    · omega
    · rcases Int.lt_or_le (t i').toInt (xv.toInt + sv.toInt) with q | q
      · exact absurd ⟨i', b2, hab, q⟩ hnb
      · exact q
    · have := hlo b b2 b1; have := hhi i a2 a3; omega
    · have := hhi i a2 a3; omega
    · exact hO.2.2.2 i i' a2 b2 hab
  · refine pace_below (X := xv.toInt) hO.2.2.1 inj (fun k hk h => ?_) (fun k' hk' h => ?_) hy
    · have hkj : k < j := by
        rcases Nat.lt_or_ge k j with q | q
        · exact q
        · have := hhi k hk q; omega
      exact ⟨k, by omega, by rw [insA_lt hkj], by rw [insA_lt hkj], by rw [insA_lt hkj], by rw [insA_lt hkj]⟩
    · rcases ins_row (t := t) (s := s) (f := f) (l := l) (xv := xv) (sv := sv) (fv := fv) (lv := lv) hj k' hk' with ⟨a1, a2, e1, e2, e3, e4⟩ | ⟨a1, e1, e2, e3, e4⟩ | ⟨i, a1, a2, a3, e1, e2, e3, e4⟩
      · exact ⟨k', a2, by rw [e1], by rw [e2], by rw [e3], by rw [e4]⟩
      · rw [e1] at h; omega
      · rw [e1] at h; have := hhi i a2 a3; omega
theorem upd_same {a : Nat → Int32} {j : Nat} {v : Int32} (h : a j = v) : upd a j v = a := by
  funext k
  by_cases e : k = j
  · subst e; rw [pk_us, h]
  · rw [pk_un e]
theorem put_hit {t s f l : Nat → Int32} {j n : Nat} {xv sv fv lv : Int32} (hO : okM n t s f l) (hs : srt n t) (hj : j < n) (hxj : (t j).toInt = xv.toInt)
    (hsv : 0 ≤ sv.toInt ∧ sv.toInt ≤ 2000) (hxs : xv.toInt + sv.toInt ≤ 1000000) (hfv : 1 ≤ fv.toInt ∧ fv.toInt ≤ 1000000) (hlv : 1 ≤ lv.toInt ∧ lv.toInt ≤ 1000000)
    (hnb : ¬ btw n t xv.toInt (xv.toInt + sv.toInt)) :
    okM n (upd t j xv) (upd s j sv) (upd f j fv) (upd l j lv) ∧ srt n (upd t j xv) ∧ ∀ y : Int, y < xv.toInt → paceF t s f l n y = paceF (upd t j xv) (upd s j sv) (upd f j fv) (upd l j lv) n y := by
  rw [upd_same (a := t) (i_ext hxj)]
  refine ⟨⟨hO.1, fun k hk => ?_, hO.2.2.1, fun a b ha hb hab => ?_⟩, hs, fun y hy => ?_⟩
  · have h0 := hO.2.1 k hk
    by_cases e : k = j
    · subst e; rw [pk_us, pk_us, pk_us]; omega
    · rw [pk_un e, pk_un e, pk_un e]; omega
  · by_cases e : a = j
    · subst e
      rw [pk_us]
      rcases Int.lt_or_le (t b).toInt (xv.toInt + sv.toInt) with q | q
      · exact absurd ⟨b, hb, by omega, q⟩ hnb
      · omega
    · rw [pk_un e]; exact hO.2.2.2 a b ha hb hab
  · refine pace_below (X := xv.toInt) hO.2.2.1 hO.2.2.1 (fun k hk h => ?_) (fun k hk h => ?_) hy
    · have e : k ≠ j := fun e => by rw [e] at h; omega
      exact ⟨k, hk, rfl, by rw [pk_un e], by rw [pk_un e], by rw [pk_un e]⟩
    · have e : k ≠ j := fun e => by rw [e] at h; omega
      exact ⟨k, hk, rfl, by rw [pk_un e], by rw [pk_un e], by rw [pk_un e]⟩
theorem shL_lt {a : Nat → Int32} {p n k : Nat} (h : k < p) : shL a p n k = a k := by
  simp only [shL]
  rw [if_neg (by omega)]
theorem shL_ge {a : Nat → Int32} {p n k : Nat} (h : p ≤ k) (h2 : k + 1 < n) : shL a p n k = a (k + 1) := by
  simp only [shL]
  rw [if_pos (by omega)]
theorem del_row {t s f l : Nat → Int32} {p n m : Nat} (hm : m + 1 = n) (k : Nat) (hk : k < m) : ∃ i : Nat, i < n ∧ i ≠ p ∧ (k < p → i = k) ∧ (p ≤ k → i = k + 1) ∧ shL t p n k = t i ∧ shL s p n k = s i ∧ shL f p n k = f i ∧ shL l p n k = l i := by
  rcases Nat.lt_or_ge k p with q | q
  · exact ⟨k, by omega, by omega, fun _ => rfl, fun _ => by omega, shL_lt q, shL_lt q, shL_lt q, shL_lt q⟩
  · exact ⟨k + 1, by omega, by omega, fun _ => by omega, fun _ => rfl, shL_ge q (by omega), shL_ge q (by omega), shL_ge q (by omega), shL_ge q (by omega)⟩
theorem del_ok {t s f l : Nat → Int32} {p n m : Nat} (hO : okM n t s f l) (hs : srt n t) (hp : p < n) (hm : m + 1 = n) :
    okM m (shL t p n) (shL s p n) (shL f p n) (shL l p n) ∧ srt m (shL t p n) ∧ ∀ y : Int, y < (t p).toInt → paceF t s f l n y = paceF (shL t p n) (shL s p n) (shL f p n) (shL l p n) m y := by
  have hS : srt m (shL t p n) := by
    intro a b hab hb
    obtain ⟨i, i1, i2, i3, i4, e1, -⟩ := del_row (t := t) (s := s) (f := f) (l := l) (p := p) hm a (by omega)
    obtain ⟨j, j1, j2, j3, j4, g1, -⟩ := del_row (t := t) (s := s) (f := f) (l := l) (p := p) hm b hb
    rw [e1, g1]
    refine hs i j ?_ j1
    rcases Nat.lt_or_ge a p with q | q <;> rcases Nat.lt_or_ge b p with q2 | q2
    · have := i3 q; have := j3 q2; omega
    · have := i3 q; have := j4 q2; omega
    · omega
    · have := i4 q; have := j4 q2; omega
  have inj := srt_inj hS
  refine ⟨⟨by have := hO.1; omega, fun k hk => ?_, inj, fun a b ha hb hab => ?_⟩, hS, fun y hy => ?_⟩
  · obtain ⟨i, i1, -, -, -, e1, e2, e3, e4⟩ := del_row (t := t) (s := s) (f := f) (l := l) (p := p) hm k hk
    rw [e1, e2, e3, e4]; exact hO.2.1 i i1
  · obtain ⟨i, i1, -, -, -, e1, e2, -⟩ := del_row (t := t) (s := s) (f := f) (l := l) (p := p) hm a ha
    obtain ⟨j, j1, -, -, -, g1, -⟩ := del_row (t := t) (s := s) (f := f) (l := l) (p := p) hm b hb
    rw [e1, g1] at hab
    rw [e1, e2, g1]
    exact hO.2.2.2 i j i1 j1 hab
  · refine pace_below (X := (t p).toInt) hO.2.2.1 inj (fun k hk h => ?_) (fun k hk h => ?_) hy
    · have hkp : k < p := by
        rcases Nat.lt_or_ge k p with q | q
        · exact q
        · have := srt_le hs q hk; omega
      exact ⟨k, by omega, by rw [shL_lt hkp], by rw [shL_lt hkp], by rw [shL_lt hkp], by rw [shL_lt hkp]⟩
    · obtain ⟨i, i1, -, -, -, e1, e2, e3, e4⟩ := del_row (t := t) (s := s) (f := f) (l := l) (p := p) hm k hk
      exact ⟨i, i1, by rw [e1], by rw [e2], by rw [e3], by rw [e4]⟩
/-- what stands below a tick at which alone something changes, stays -/
theorem okU_keep {t s f l t' s' f' l' : Nat → Int32} {n n' k k' : Nat} {u : Nat → Int64} {X : Int} (hU : okU n t s f l u) (hk : k < n) (h : ∀ y : Int, y < X → paceF t s f l n y = paceF t' s' f' l' n' y) (e : (t' k').toInt = (t k).toInt) (h0 : (t k).toInt ≤ X) (hp : 0 ≤ (t k).toInt) : (u k).toInt = psum (paceF t' s' f' l' n') (t' k').toInt.toNat := by
  rw [hU k hk, e]
  exact psum_congr _ (fun y hy => h y (by omega))
def cPut (n : Nat) (t s f l : Nat → Int32) (x sv fv lv : Int32) (r : Int) (n' : Nat) (t' s' f' l' : Nat → Int32) : Prop :=
  (∃ j : Nat, j < n ∧ (t j).toInt = x.toInt ∧ r = n ∧ n' = n ∧ t' = upd t j x ∧ s' = upd s j sv ∧ f' = upd f j fv ∧ l' = upd l j lv) ∨
  ((∀ k : Nat, k < n → (t k).toInt ≠ x.toInt) ∧ n = 40 ∧ r = -4 ∧ n' = n ∧ t' = t ∧ s' = s ∧ f' = f ∧ l' = l) ∨
  (∃ j : Nat, j ≤ n ∧ (∀ k : Nat, k < n → (t k).toInt ≠ x.toInt) ∧ n < 40 ∧ r = n + 1 ∧ n' = n + 1 ∧ t' = insA t j n x ∧ s' = insA s j n sv ∧ f' = insA f j n fv ∧ l' = insA l j n lv)
def cDel (n : Nat) (t s f l : Nat → Int32) (x : Int32) (r : Int) (n' : Nat) (t' s' f' l' : Nat → Int32) : Prop :=
  (∃ j : Nat, j < n ∧ (t j).toInt = x.toInt ∧ r = n' ∧ n' + 1 = n ∧ t' = shL t j n ∧ s' = shL s j n ∧ f' = shL f j n ∧ l' = shL l j n) ∨
  ((∀ k : Nat, k < n → (t k).toInt ≠ x.toInt) ∧ r = -3 ∧ n' = n ∧ t' = t ∧ s' = s ∧ f' = f ∧ l' = l)
/-- the place of a new mark: behind the last one at or ahead of it -/
theorem bi_place {t : Nat → Int32} {x r : Int} {n : Nat} (hs : srt n t) (h : r = bi t x n) (hne : r < 0 ∨ (t r.toNat).toInt ≠ x) : -1 ≤ r ∧ r < n ∧ (∀ k : Nat, k < n → k < (r + 1).toNat → (t k).toInt < x) ∧ (∀ k : Nat, k < n → (r + 1).toNat ≤ k → x < (t k).toInt) := by
  rcases Int.lt_or_le r 0 with q | q
  · have h1 := bi_neg h q
    exact ⟨by omega, by omega, fun k _ h => by omega, fun k hk _ => h1.2 k hk⟩
  · have h1 := bi_get h q
    refine ⟨by omega, by omega, fun k hk h2 => ?_, fun k hk h2 => ?_⟩
    · have := srt_le hs (show k ≤ r.toNat by omega) h1.1; omega
    · have := hs r.toNat k (by omega) hk
      rcases Int.lt_or_le x (t k).toInt with q2 | q2
      · exact q2
      · have := h1.2.2.2 k hk q2; omega
theorem fs_b {a m A : Int} (hA : -A ≤ a ∧ a ≤ A) : ∀ n : Nat, (n : Int) ≤ m → -(A * n) ≤ fs a 0 m n ∧ fs a 0 m n ≤ A * n := by
  intro n
  induction n with
  | zero => intro _; simp [fs]
  | succ n ih =>
    intro h
    have h1 := ih (by omega)
    have hm : 0 < m := by omega
    have h2 := mul_abs hA (show 0 ≤ (n : Int) ∧ (n : Int) ≤ m by omega)
    have h3 : -A ≤ (a * n + 0) / m := Int.le_ediv_of_mul_le hm (by rw [Int.neg_mul]; omega)
    have h4 : (a * n + 0) / m < A + 1 := Int.ediv_lt_of_lt_mul hm (by rw [Int.add_mul]; omega)
    simp only [fs]
    rw [show ((n + 1 : Nat) : Int) = (n : Int) + 1 by omega, Int.mul_add]
    omega

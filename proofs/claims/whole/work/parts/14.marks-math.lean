/-! the mark that rules a tick, the pace, sums of paces -/
theorem bi_spec {t : Nat → Int32} {x : Int} : ∀ n : Nat, (bi t x n = -1 ∧ ∀ k : Nat, k < n → x < (t k).toInt) ∨ (∃ j : Nat, j < n ∧ bi t x n = j ∧ (t j).toInt ≤ x ∧ ∀ k : Nat, k < n → (t k).toInt ≤ x → (t k).toInt ≤ (t j).toInt) := by
  intro n
  induction n with
  | zero => exact Or.inl ⟨rfl, fun k h => by omega⟩
  | succ n ih =>
    simp only [bi]
    rcases ih with ⟨h1, h2⟩ | ⟨j, hj, h1, h2, h3⟩
    · rw [h1]
      by_cases h : (t n).toInt ≤ x
      · rw [if_pos ⟨h, Or.inl rfl⟩]
        refine Or.inr ⟨n, by omega, rfl, h, fun k hk hx => ?_⟩
        rcases Nat.lt_succ_iff_lt_or_eq.mp hk with h4 | h4
        · have := h2 k h4; omega
        · rw [h4]; omega
      · rw [if_neg (fun q => h q.1)]
        refine Or.inl ⟨rfl, fun k hk => ?_⟩
        rcases Nat.lt_succ_iff_lt_or_eq.mp hk with h4 | h4
        · exact h2 k h4
        · rw [h4]; omega
    · rw [h1, Int.toNat_natCast]
      by_cases h : (t n).toInt ≤ x ∧ (t j).toInt < (t n).toInt
      · rw [if_pos ⟨h.1, Or.inr h.2⟩]
        refine Or.inr ⟨n, by omega, rfl, h.1, fun k hk hx => ?_⟩
        rcases Nat.lt_succ_iff_lt_or_eq.mp hk with h4 | h4
        · have := h3 k h4 hx; omega
        · rw [h4]; omega
      · rw [if_neg (by rintro ⟨q1, q2 | q2⟩ <;> omega)]
        refine Or.inr ⟨j, by omega, rfl, h2, fun k hk hx => ?_⟩
        rcases Nat.lt_succ_iff_lt_or_eq.mp hk with h4 | h4
        · exact h3 k h4 hx
        · rw [h4] at hx ⊢; omega
theorem bi_none {t : Nat → Int32} {x : Int} {n : Nat} (h : ∀ k : Nat, k < n → x < (t k).toInt) : bi t x n = -1 := by
  rcases bi_spec (t := t) (x := x) n with ⟨h1, -⟩ | ⟨j, hj, -, h2, -⟩
  · exact h1
  · have := h j hj; omega
theorem bi_uniq {t : Nat → Int32} {x : Int} {n j : Nat} (inj : ∀ i j : Nat, i < n → j < n → (t i).toInt = (t j).toInt → i = j) (hj : j < n) (h1 : (t j).toInt ≤ x) (h2 : ∀ k : Nat, k < n → (t k).toInt ≤ x → (t k).toInt ≤ (t j).toInt) : bi t x n = j := by
  rcases bi_spec (t := t) (x := x) n with ⟨-, h3⟩ | ⟨i, hi, h4, h5, h6⟩
  · have := h3 j hj; omega
  · rw [h4]
    have e := inj i j hi hj (by have := h6 j hj h1; have := h2 i hi h5; omega)
    rw [e]
theorem srt_inj {t : Nat → Int32} {n : Nat} (h : srt n t) : ∀ i j : Nat, i < n → j < n → (t i).toInt = (t j).toInt → i = j := by
  intro i j hi hj e
  rcases Nat.lt_trichotomy i j with q | q | q
  · have := h i j q hj; omega
  · exact q
  · have := h j i q hi; omega
theorem srt_le {t : Nat → Int32} {n : Nat} (h : srt n t) {i j : Nat} (hij : i ≤ j) (hj : j < n) : (t i).toInt ≤ (t j).toInt := by
  rcases Nat.lt_or_eq_of_le hij with q | q
  · have := h i j q hj; omega
  · rw [q]; omega
theorem bi_srt {t : Nat → Int32} {x r : Int} {n : Nat} (hs : srt n t) (h0 : 0 ≤ r) (hn : r < n) (h1 : (t r.toNat).toInt ≤ x) (h2 : ∀ k : Nat, k < n → r < k → x < (t k).toInt) : r = bi t x n := by
  rw [bi_uniq (j := r.toNat) (srt_inj hs) (by omega) h1 (fun k hk hx => ?_)]
  · omega
  · refine srt_le hs ?_ (by omega)
    rcases Nat.lt_or_ge r.toNat k with q | q
    · have := h2 k hk (by omega); omega
    · exact q
theorem bi_neg {t : Nat → Int32} {x r : Int} {n : Nat} (h : r = bi t x n) (h0 : r < 0) : r = -1 ∧ ∀ k : Nat, k < n → x < (t k).toInt := by
  rcases bi_spec (t := t) (x := x) n with ⟨h1, h2⟩ | ⟨j, hj, h1, -⟩
  · exact ⟨h.trans h1, h2⟩
  · omega
theorem bi_get {t : Nat → Int32} {x r : Int} {n : Nat} (h : r = bi t x n) (h0 : 0 ≤ r) : r.toNat < n ∧ r < n ∧ (t r.toNat).toInt ≤ x ∧ ∀ k : Nat, k < n → (t k).toInt ≤ x → (t k).toInt ≤ (t r.toNat).toInt := by
  rcases bi_spec (t := t) (x := x) n with ⟨h1, h2⟩ | ⟨j, hj, h1, h2, h3⟩
  · omega
  · have e : r.toNat = j := by omega
    rw [e]
    exact ⟨hj, by omega, h2, h3⟩
def insS (n : Nat) (t s : Nat → Int32) (x : Int) : Prop := ∃ k : Nat, k < n ∧ (t k).toInt < x ∧ x < (t k).toInt + (s k).toInt
def btw (n : Nat) (t : Nat → Int32) (a b : Int) : Prop := ∃ k : Nat, k < n ∧ a < (t k).toInt ∧ (t k).toInt < b
theorem ins_none {n : Nat} {t s : Nat → Int32} {x : Int} (h : ∀ k : Nat, k < n → x < (t k).toInt) : ¬ insS n t s x := fun ⟨k, hk, h1, _⟩ => by have := h k hk; omega
theorem ins_no {n : Nat} {t s f l : Nat → Int32} {x : Int} (hO : okM n t s f l) {j : Nat} (hj : j < n) (h2 : ∀ k : Nat, k < n → (t k).toInt ≤ x → (t k).toInt ≤ (t j).toInt) (h3 : x = (t j).toInt ∨ (t j).toInt + (s j).toInt ≤ x) (h1 : (t j).toInt ≤ x) : ¬ insS n t s x := by
  rintro ⟨k, hk, h4, h5⟩
  have h6 := h2 k hk (by omega)
  by_cases e : k = j
  · subst e; omega
  · have h7 : (t k).toInt < (t j).toInt := by
      rcases Int.lt_or_le (t k).toInt (t j).toInt with q | q
      · exact q
      · exact absurd (hO.2.2.1 k j hk hj (by omega)) e
    have h8 := hO.2.2.2 k j hk hj h7
    omega
def tellV (t s f l : Nat → Int32) (i : Nat) (w : Int) : Int := if w = 0 then (t i).toInt else if w = 1 then (if 0 < (s i).toInt then 1 else 0) else if w = 2 then (f i).toInt else if w = 3 then (l i).toInt else (s i).toInt
def shR (a : Nat → Int32) (p n : Nat) : Nat → Int32 := fun k => if p < k ∧ k ≤ n then a (k - 1) else a k
def shL (a : Nat → Int32) (p n : Nat) : Nat → Int32 := fun k => if p ≤ k ∧ k + 1 < n then a (k + 1) else a k
theorem shR_n (a : Nat → Int32) (n : Nat) : shR a n n = a := by
  funext k
  simp only [shR]
  rw [if_neg (by omega)]
theorem shR_st (a : Nat → Int32) {i n : Nat} (h0 : 0 < i) (hn : i ≤ n) : upd (shR a i n) i ((shR a i n) (i - 1)) = shR a (i - 1) n := by
  funext k
  by_cases h : k = i
  · subst h
    rw [pk_us]
    simp only [shR]
    rw [if_neg (by omega), if_pos (by omega)]
  · rw [pk_un h]
    simp only [shR]
    by_cases h2 : i < k ∧ k ≤ n
    · rw [if_pos h2, if_pos (by omega)]
    · rw [if_neg h2, if_neg (by omega)]
/-- while rows move down: those from p on, below i, have moved -/
def shP (a : Nat → Int32) (p i : Nat) : Nat → Int32 := fun k => if p ≤ k ∧ k < i then a (k + 1) else a k
theorem shP_0 (a : Nat → Int32) (p : Nat) : shP a p p = a := by
  funext k
  simp only [shP]
  rw [if_neg (by omega)]
theorem shP_n (a : Nat → Int32) {p n i : Nat} (h : i + 1 = n) : shP a p i = shL a p n := by
  funext k
  simp only [shP, shL]
  by_cases h2 : p ≤ k ∧ k < i
  · rw [if_pos h2, if_pos (by omega)]
  · rw [if_neg h2, if_neg (by omega)]
theorem shP_st (a : Nat → Int32) {p i : Nat} (h : p ≤ i) : upd (shP a p i) i ((shP a p i) (i + 1)) = shP a p (i + 1) := by
  funext k
  by_cases h1 : k = i
  · subst h1
    rw [pk_us]
    simp only [shP]
    rw [if_neg (by omega), if_pos (by omega)]
  · rw [pk_un h1]
    simp only [shP]
    by_cases h2 : p ≤ k ∧ k < i
    · rw [if_pos h2, if_pos (by omega)]
    · rw [if_neg h2, if_neg (by omega)]
theorem pace_none {t s f l : Nat → Int32} {n : Nat} {x : Int} (h : ∀ k : Nat, k < n → x < (t k).toInt) : paceF t s f l n x = 1000 := by
  unfold paceF
  rw [if_pos (bi_none h)]
theorem pace_at {t s f l : Nat → Int32} {n j : Nat} {x : Int} (inj : ∀ i j : Nat, i < n → j < n → (t i).toInt = (t j).toInt → i = j) (hj : j < n) (h1 : (t j).toInt ≤ x) (h2 : ∀ k : Nat, k < n → (t k).toInt ≤ x → (t k).toInt ≤ (t j).toInt) : paceF t s f l n x = seg (f j).toInt (l j).toInt (s j).toInt (x - (t j).toInt) := by
  unfold paceF
  rw [bi_uniq inj hj h1 h2, if_neg (by omega), Int.toNat_natCast]
theorem seg_rng {f l s k : Int} (hf : 1 ≤ f ∧ f ≤ 1000000) (hl : 1 ≤ l ∧ l ≤ 1000000) (hk : 0 ≤ k) : 1 ≤ seg f l s k ∧ seg f l s k ≤ 1000000 := by
  unfold seg
  by_cases h : s ≤ k
  · rw [if_pos h]; exact hl
  · rw [if_neg h]
    have hs : 0 < s := by omega
    rcases Int.le_total f l with q | q
    · have h1 : 0 ≤ (l - f) * k / s := Int.ediv_nonneg (Int.mul_nonneg (by omega) hk) (by omega)
      have h2 : (l - f) * k / s < (l - f) + 1 := Int.ediv_lt_of_lt_mul hs (by
        have h3 : (l - f) * k ≤ (l - f) * s := Int.mul_le_mul_of_nonneg_left (by omega) (by omega)
        rw [Int.add_mul]; omega)
      omega
    · have h1 : (l - f) ≤ (l - f) * k / s := Int.le_ediv_of_mul_le hs (Int.mul_le_mul_of_nonpos_left (by omega) (by omega))
      have h2 : (l - f) * k / s < 1 := Int.ediv_lt_of_lt_mul hs (by
        have h3 : (l - f) * k ≤ 0 := Int.mul_nonpos_of_nonpos_of_nonneg (by omega) hk
        omega)
      omega
theorem pace_rng {t s f l : Nat → Int32} {n : Nat} (hO : okM n t s f l) (x : Int) : 1 ≤ paceF t s f l n x ∧ paceF t s f l n x ≤ 1000000 := by
  rcases bi_spec (t := t) (x := x) n with ⟨-, h⟩ | ⟨j, hj, -, h1, h2⟩
  · rw [pace_none h]; omega
  · rw [pace_at hO.2.2.1 hj h1 h2]
    have := hO.2.1 j hj
    exact seg_rng (by omega) (by omega) (by omega)
theorem psum_congr {P Q : Int → Int} : ∀ n : Nat, (∀ y : Nat, y < n → P y = Q y) → psum P n = psum Q n := by
  intro n
  induction n with
  | zero => intro _; rfl
  | succ n ih => intro h; simp only [psum]; rw [ih (fun y hy => h y (by omega)), h n (by omega)]
theorem psum_add {P : Int → Int} (a : Nat) : ∀ m : Nat, psum P (a + m) = psum P a + psum (fun y => P (a + y)) m := by
  intro m
  induction m with
  | zero => simp [psum]
  | succ m ih =>
    rw [show a + (m + 1) = (a + m) + 1 by omega]
    simp only [psum]
    rw [ih, show (((a + m : Nat)) : Int) = (a : Int) + m by omega]
    omega
theorem psum_const {P : Int → Int} {c : Int} : ∀ n : Nat, (∀ y : Nat, y < n → P y = c) → psum P n = c * n := by
  intro n
  induction n with
  | zero => intro _; simp [psum]
  | succ n ih =>
    intro h
    simp only [psum]
    rw [ih (fun y hy => h y (by omega)), h n (by omega), show ((n + 1 : Nat) : Int) = (n : Int) + 1 by omega, Int.mul_add]
    omega
theorem psum_rng {P : Int → Int} : ∀ n : Nat, (∀ y : Nat, y < n → 1 ≤ P y ∧ P y ≤ 1000000) → (n : Int) ≤ psum P n ∧ psum P n ≤ 1000000 * n := by
  intro n
  induction n with
  | zero => intro _; simp [psum]
  | succ n ih => intro h; have h1 := ih (fun y hy => h y (by omega)); have h2 := h n (by omega); simp only [psum]; omega
theorem seg_lo {f l s : Int} : ∀ m : Nat, (m : Int) ≤ s → psum (seg f l s) m = f * m + fs (l - f) 0 s m := by
  intro m
  induction m with
  | zero => intro _; simp [psum, fs]
  | succ m ih =>
    intro h
    simp only [psum, fs]
    rw [ih (by omega)]
    have e : seg f l s m = f + ((l - f) * m + 0) / s := by
      unfold seg
      rw [if_neg (by omega), Int.add_zero]
    rw [e, show ((m + 1 : Nat) : Int) = (m : Int) + 1 by omega, Int.mul_add]
    omega
theorem seg_hi {f l s : Int} (S : Nat) (h : s ≤ S) : ∀ d : Nat, psum (seg f l s) (S + d) = psum (seg f l s) S + l * d := by
  intro d
  induction d with
  | zero => simp
  | succ d ih =>
    rw [show S + (d + 1) = (S + d) + 1 by omega]
    simp only [psum]
    have e : seg f l s ((S + d : Nat) : Int) = l := by
      unfold seg
      rw [if_pos (by omega)]
    rw [ih, e, show ((d + 1 : Nat) : Int) = (d : Int) + 1 by omega, Int.mul_add]
    omega
theorem seg_sum {f l s : Int} (hs : 0 ≤ s) (m : Nat) : psum (seg f l s) m = f * (min (m : Int) s) + fs (l - f) 0 s (min (m : Int) s).toNat + l * (m - min (m : Int) s) := by
  rcases Int.le_total (m : Int) s with h | h
  · rw [Int.min_eq_left h, seg_lo m h, Int.toNat_natCast, Int.sub_self, Int.mul_zero]; omega
  · rw [Int.min_eq_right h]
    have h1 := seg_hi (f := f) (l := l) (s := s) s.toNat (by omega) (m - s.toNat)
    rw [show s.toNat + (m - s.toNat) = m by omega, seg_lo s.toNat (by omega)] at h1
    rw [h1, show ((s.toNat : Nat) : Int) = s by omega, show ((m - s.toNat : Nat) : Int) = (m : Int) - s by omega]
/-- the units ahead of x by the mark at j -/
theorem uab {t s f l : Nat → Int32} {n j : Nat} {x : Int} (hO : okM n t s f l) (hj : j < n) (h1 : (t j).toInt ≤ x) (h2 : ∀ k : Nat, k < n → (t j).toInt < (t k).toInt → x ≤ (t k).toInt) : psum (paceF t s f l n) x.toNat = psum (paceF t s f l n) (t j).toInt.toNat + psum (seg (f j).toInt (l j).toInt (s j).toInt) (x - (t j).toInt).toNat := by
  have h0 := hO.2.1 j hj
  rw [show x.toNat = (t j).toInt.toNat + (x - (t j).toInt).toNat by omega, psum_add]
  congr 1
  refine psum_congr _ (fun y hy => ?_)
  rw [pace_at (j := j) hO.2.2.1 hj (by omega) (fun k hk hx => ?_)]
  · congr 1; omega
  · rcases Int.lt_or_le (t j).toInt (t k).toInt with q | q
    · have := h2 k hk q; omega
    · exact q
theorem uab0 {t s f l : Nat → Int32} {n : Nat} {x : Int} (h0 : 0 ≤ x) (h2 : ∀ k : Nat, k < n → x ≤ (t k).toInt) : psum (paceF t s f l n) x.toNat = 1000 * x := by
  rw [psum_const (c := 1000) x.toNat (fun y hy => pace_none (fun k hk => by have := h2 k hk; omega))]
  omega
def okU (n : Nat) (t s f l : Nat → Int32) (u : Nat → Int64) : Prop := ∀ k : Nat, k < n → (u k).toInt = psum (paceF t s f l n) (t k).toInt.toNat

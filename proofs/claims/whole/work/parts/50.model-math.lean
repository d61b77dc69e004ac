theorem bi_yes {t : Nat → Int32} {x : Int} {n : Nat} (h : (t n).toInt ≤ x ∧ (bi t x n = -1 ∨ (t (bi t x n).toNat).toInt < (t n).toInt)) : bi t x (n + 1) = n := by simp only [bi]; rw [if_pos h]
theorem bi_no {t : Nat → Int32} {x : Int} {n : Nat} (h : ¬ ((t n).toInt ≤ x ∧ (bi t x n = -1 ∨ (t (bi t x n).toNat).toInt < (t n).toInt))) : bi t x (n + 1) = bi t x n := by simp only [bi]; rw [if_neg h]
theorem bi_rng {t : Nat → Int32} {x : Int} (n : Nat) : -1 ≤ bi t x n ∧ bi t x n < n := by
  rcases bi_spec (t := t) (x := x) n with ⟨h, -⟩ | ⟨j, hj, h, -⟩ <;> omega
theorem ins_s {n : Nat} {t s : Nat → Int32} {x : Int} : insS (n + 1) t s x ↔ insS n t s x ∨ ((t n).toInt < x ∧ x < (t n).toInt + (s n).toInt) := by
  constructor
  · rintro ⟨k, hk, h⟩
    rcases Nat.lt_succ_iff_lt_or_eq.mp hk with q | q
    · exact Or.inl ⟨k, q, h⟩
    · subst q; exact Or.inr h
  · rintro (⟨k, hk, h⟩ | h)
    · exact ⟨k, by omega, h⟩
    · exact ⟨n, by omega, h⟩
theorem btw_s {n : Nat} {t : Nat → Int32} {a b : Int} : btw (n + 1) t a b ↔ btw n t a b ∨ (a < (t n).toInt ∧ (t n).toInt < b) := by
  constructor
  · rintro ⟨k, hk, h⟩
    rcases Nat.lt_succ_iff_lt_or_eq.mp hk with q | q
    · exact Or.inl ⟨k, q, h⟩
    · subst q; exact Or.inr h
  · rintro (⟨k, hk, h⟩ | h)
    · exact ⟨k, by omega, h⟩
    · exact ⟨n, by omega, h⟩
theorem ins_z {t s : Nat → Int32} {x : Int} : ¬ insS 0 t s x := fun ⟨k, hk, _⟩ => by omega
theorem btw_z {t : Nat → Int32} {a b : Int} : ¬ btw 0 t a b := fun ⟨k, hk, _⟩ => by omega
def pPut (n : Nat) (t s f l : Nat → Int32) (x sv fv lv : Int32) (r : Int) (n' : Nat) (t' s' f' l' : Nat → Int32) : Prop :=
  (0 ≤ hfind t x.toInt n ∧ r = n ∧ n' = n ∧ t' = upd t (hfind t x.toInt n).toNat x ∧ s' = upd s (hfind t x.toInt n).toNat sv ∧ f' = upd f (hfind t x.toInt n).toNat fv ∧ l' = upd l (hfind t x.toInt n).toNat lv) ∨
  (hfind t x.toInt n = -1 ∧ n = 40 ∧ r = -4 ∧ n' = n ∧ t' = t ∧ s' = s ∧ f' = f ∧ l' = l) ∨
  (hfind t x.toInt n = -1 ∧ n < 40 ∧ r = n + 1 ∧ n' = n + 1 ∧ t' = upd t n x ∧ s' = upd s n sv ∧ f' = upd f n fv ∧ l' = upd l n lv)
def pDel (n : Nat) (t s f l : Nat → Int32) (x : Int32) (r : Int) (n' : Nat) (t' s' f' l' : Nat → Int32) : Prop :=
  (0 ≤ hfind t x.toInt n ∧ r = n' ∧ n' + 1 = n ∧ t' = upd t (hfind t x.toInt n).toNat (t n') ∧ s' = upd s (hfind t x.toInt n).toNat (s n') ∧ f' = upd f (hfind t x.toInt n).toNat (f n') ∧ l' = upd l (hfind t x.toInt n).toNat (l n')) ∨
  (hfind t x.toInt n = -1 ∧ r = -3 ∧ n' = n ∧ t' = t ∧ s' = s ∧ f' = f ∧ l' = l)
def pIns (n : Nat) (t s f l : Nat → Int32) (x sv fv lv : Int32) (r : Int) (n' : Nat) (t' s' f' l' : Nat → Int32) : Prop :=
  ((insS n t s x.toInt ∨ btw n t x.toInt (x.toInt + sv.toInt)) ∧ r = -3 ∧ sameA n t s f l n' t' s' f' l') ∨
  (¬ insS n t s x.toInt ∧ ¬ btw n t x.toInt (x.toInt + sv.toInt) ∧ pPut n t s f l x sv fv lv r n' t' s' f' l')
def pStep (n : Nat) (t s f l : Nat → Int32) (x p : Int32) (r : Int) (n' : Nat) (t' s' f' l' : Nat → Int32) : Prop :=
  ((x.toInt < 0 ∨ 999999 < x.toInt ∨ p.toInt < 1 ∨ 1000000 < p.toInt) ∧ r = -2 ∧ sameA n t s f l n' t' s' f' l') ∨
  ((0 ≤ x.toInt ∧ x.toInt ≤ 999999 ∧ 1 ≤ p.toInt ∧ p.toInt ≤ 1000000) ∧ pIns n t s f l x 0 p p r n' t' s' f' l')
def pSlope (n : Nat) (t s f l : Nat → Int32) (x k p q : Int32) (r : Int) (n' : Nat) (t' s' f' l' : Nat → Int32) : Prop :=
  ((x.toInt < 0 ∨ 999999 < x.toInt ∨ k.toInt < 1 ∨ 2000 < k.toInt ∨ p.toInt < 1 ∨ 1000000 < p.toInt ∨ q.toInt < 1 ∨ 1000000 < q.toInt ∨ 1000000 < x.toInt + k.toInt) ∧ r = -2 ∧ sameA n t s f l n' t' s' f' l') ∨
  ((0 ≤ x.toInt ∧ x.toInt ≤ 999999 ∧ 1 ≤ k.toInt ∧ k.toInt ≤ 2000 ∧ 1 ≤ p.toInt ∧ p.toInt ≤ 1000000 ∧ 1 ≤ q.toInt ∧ q.toInt ≤ 1000000 ∧ x.toInt + k.toInt ≤ 1000000) ∧ pIns n t s f l x k p q r n' t' s' f' l')
def pMod (P : Int → Int) (n : Nat) (t s f l : Nat → Int32) (x u v : Int32) (r : Int) (n' : Nat) (t' s' f' l' : Nat → Int32) : Prop :=
  ((x.toInt < 1 ∨ 999999 < x.toInt ∨ u.toInt < 1 ∨ 1000 < u.toInt ∨ v.toInt < 1 ∨ 1000 < v.toInt) ∧ r = -2 ∧ sameA n t s f l n' t' s' f' l') ∨
  ((1 ≤ x.toInt ∧ x.toInt ≤ 999999 ∧ 1 ≤ u.toInt ∧ u.toInt ≤ 1000 ∧ 1 ≤ v.toInt ∧ v.toInt ≤ 1000) ∧
    (((P (x.toInt - 1) * u.toInt / v.toInt < 1 ∨ 1000000 < P (x.toInt - 1) * u.toInt / v.toInt) ∧ r = -3 ∧ sameA n t s f l n' t' s' f' l') ∨
     (∃ (w : Int32) (q : Int), w.toInt = P (x.toInt - 1) * u.toInt / v.toInt ∧ 1 ≤ w.toInt ∧ w.toInt ≤ 1000000 ∧ pIns n t s f l x 0 w w q n' t' s' f' l' ∧ ((q < 0 ∧ r = q) ∨ (0 ≤ q ∧ r = w.toInt)))))
/-- how many ticks are below x -/
def cntL (t : Nat → Int32) (x : Int) : Nat → Int
  | 0 => 0
  | n + 1 => cntL t x n + (if (t n).toInt < x then 1 else 0)
theorem neg_ceil {a b : Int} (hb : 0 < b) : -((-a + b - 1) / b) = a / b := by
  have h1 := dv_bnd (a := -a + b - 1) hb
  rw [Int.add_mul, Int.one_mul] at h1
  refine (dv_uniq hb ?_ ?_).symm
  · rw [Int.neg_mul]; omega
  · rw [Int.add_mul, Int.one_mul, Int.neg_mul]; omega
theorem al_none {t s f l : Nat → Int32} {n : Nat} {x R : Int} (h : ∀ k : Nat, k < n → x < (t k).toInt) (hR : ∀ k : Nat, k < n → x < (t k).toInt → R ≤ (t k).toInt) : ∀ y : Int, x ≤ y → y < R → paceF t s f l n y = paceF t s f l n x := by
  intro y h1 h2
  rw [pace_none h, pace_none (fun k hk => by have := hR k hk (h k hk); omega)]
theorem al_at {t s f l : Nat → Int32} {n j : Nat} {x R : Int} (hO : okM n t s f l) (hj : j < n) (g1 : (t j).toInt ≤ x) (g2 : ∀ k : Nat, k < n → (t k).toInt ≤ x → (t k).toInt ≤ (t j).toInt) (g3 : (t j).toInt + (s j).toInt ≤ x) (hR : ∀ k : Nat, k < n → x < (t k).toInt → R ≤ (t k).toInt) : ∀ y : Int, x ≤ y → y < R → paceF t s f l n y = paceF t s f l n x := by
  intro y h1 h2
  rw [pace_at hO.2.2.1 hj g1 g2, pace_at hO.2.2.1 hj (by omega) (fun k hk hx => ?_)]
  · unfold seg; rw [if_pos (by omega), if_pos (by omega)]
  · rcases Int.lt_or_le x (t k).toInt with q | q
    · have := hR k hk q; omega
    · exact g2 k hk q
theorem al_in {t s f l : Nat → Int32} {n : Nat} {x R : Int} (h : R ≤ x + 1) : ∀ y : Int, x ≤ y → y < R → paceF t s f l n y = paceF t s f l n x := by
  intro y h1 h2
  rw [show y = x by omega]
def heldV (t u : Nat → Int32) (n : Nat) (x : Int) : Int := if hfind t x n = -1 then 0 else (u (hfind t x n).toNat).toInt
theorem hsum_held {t u : Nat → Int32} {x : Int} : ∀ n : Nat, (∀ i j : Nat, i < n → j < n → (t i).toInt = (t j).toInt → i = j) → hsum t u x n = hsum t u (x - 1) n + heldV t u n x := by
  intro n
  induction n with
  | zero => intro _; simp [hsum, heldV, hfind]
  | succ n ih =>
    intro inj
    have h1 := ih (fun i j hi hj => inj i j (by omega) (by omega))
    simp only [hsum]
    by_cases h : (t n).toInt = x
    · have h2 : heldV t u (n + 1) x = (u n).toInt := by
        unfold heldV
        rw [hfind_yes h, if_neg (by omega), Int.toNat_natCast]
      have h3 : heldV t u n x = 0 := by
        unfold heldV
        have hr := hfind_rng (t := t) (x := x) n
        rw [if_pos]
        rcases Int.lt_or_le (hfind t x n) 0 with q | q
        · omega
        · have := inj (hfind t x n).toNat n (by omega) (by omega) (by rw [hr.2.2 q, h]); omega
      rw [if_pos (by omega), if_neg (by omega), h2]
      rw [h3] at h1; omega
    · have h2 : heldV t u (n + 1) x = heldV t u n x := by
        unfold heldV
        rw [hfind_no h]
      rw [h2]
      by_cases h4 : (t n).toInt ≤ x
      · rw [if_pos h4, if_pos (by omega)]; omega
      · rw [if_neg h4, if_neg (by omega)]; omega
theorem hsum_flat {t u : Nat → Int32} {a b : Int} (hab : a ≤ b) : ∀ n : Nat, (∀ k : Nat, k < n → ¬ (a < (t k).toInt ∧ (t k).toInt ≤ b)) → hsum t u b n = hsum t u a n := by
  intro n
  induction n with
  | zero => intro _; rfl
  | succ n ih =>
    intro h
    simp only [hsum]
    rw [ih (fun k hk => h k (by omega))]
    have h1 := h n (by omega)
    by_cases h2 : (t n).toInt ≤ a
    · rw [if_pos h2, if_pos (by omega)]
    · rw [if_neg h2, if_neg (by omega)]
theorem psum_flat {P : Int → Int} {a b : Nat} {c : Int} (hab : a ≤ b) (h : ∀ y : Int, (a : Int) ≤ y → y < b → P y = c) : psum P b = psum P a + c * ((b : Int) - a) := by
  have h1 := psum_add (P := P) a (b - a)
  rw [show a + (b - a) = b by omega, psum_const (P := fun y => P ((a : Int) + y)) (c := c) (b - a) (fun y hy => h _ (by omega) (by omega))] at h1
  rw [h1, show ((b - a : Nat) : Int) = (b : Int) - a by omega]
/-- from a on to b the begins go on by one pace, and a hold may be at b -/
theorem seg_B {P : Int → Int} {t u : Nat → Int32} {h a b : Nat} {c : Int} (hO : okH h t u) (hab : a < b) (hP : ∀ y : Int, (a : Int) ≤ y → y < b → P y = c) (hh : ∀ k : Nat, k < h → (a : Int) < (t k).toInt → (b : Int) ≤ (t k).toInt) :
    (∀ x : Nat, a ≤ x → x < b → Bg P t u h x = Bg P t u h a + c * ((x : Int) - a)) ∧ Bg P t u h b = Bg P t u h a + c * ((b : Int) - a) + heldV t u h b := by
  constructor
  · intro x h1 h2
    unfold Bg
    rw [psum_flat (c := c) h1 (fun y q1 q2 => hP y q1 (by omega)), hsum_flat (a := (a : Int)) (b := (x : Int)) (by omega) h (fun k hk q => by have := hh k hk q.1; omega)]
    omega
  · unfold Bg
    rw [psum_flat (c := c) (Nat.le_of_lt hab) hP, hsum_held h hO.2.2, hsum_flat (a := (a : Int)) (b := (b : Int) - 1) (by omega) h (fun k hk q => by have := hh k hk q.1; omega)]
    omega
theorem heldV_rng {t u : Nat → Int32} {h : Nat} {x : Int} (hO : okH h t u) : 0 ≤ heldV t u h x ∧ heldV t u h x ≤ 1000000000 := by
  unfold heldV
  have hr := hfind_rng (t := t) (x := x) h
  by_cases q : hfind t x h = -1
  · rw [if_pos q]; omega
  · rw [if_neg q]; have := hO.2.1 (hfind t x h).toNat (by omega); omega
theorem cntL_rng {t : Nat → Int32} {x : Int} : ∀ n : Nat, 0 ≤ cntL t x n ∧ cntL t x n ≤ n := by
  intro n
  induction n with
  | zero => simp [cntL]
  | succ n ih => simp only [cntL]; split <;> omega
theorem Bg_0 {P : Int → Int} {t u : Nat → Int32} {h : Nat} (hO : okH h t u) : Bg P t u h 0 = heldV t u h 0 := by
  unfold Bg
  rw [hsum_held h hO.2.2]
  have e : ∀ n : Nat, (∀ k : Nat, k < n → 0 ≤ (t k).toInt) → hsum t u (((0 : Nat) : Int) - 1) n = 0 := by
    intro n
    induction n with
    | zero => intro _; rfl
    | succ n ih => intro hn; simp only [hsum]; rw [ih (fun k hk => hn k (by omega)), if_neg (by have := hn n (by omega); omega)]; rfl
  rw [e h (fun k hk => (hO.2.1 k hk).1)]
  show 0 + (0 + heldV t u h ((0 : Nat) : Int)) = heldV t u h 0
  simp

/-! when a tick begins -/
def Bg (P : Int → Int) (t u : Nat → Int32) (h : Nat) (x : Nat) : Int := psum P x + hsum t u x h
theorem hsum_mono {t u : Nat → Int32} {x y : Int} (hxy : x ≤ y) : ∀ n : Nat, (∀ k : Nat, k < n → 0 ≤ (u k).toInt) → hsum t u x n ≤ hsum t u y n := by
  intro n
  induction n with
  | zero => intro _; simp [hsum]
  | succ n ih =>
    intro h
    have h1 := ih (fun k hk => h k (by omega))
    have h2 := h n (by omega)
    simp only [hsum]
    split <;> split <;> omega
theorem Bg_rng {P : Int → Int} {t u : Nat → Int32} {h : Nat} (hP : ∀ y : Int, 1 ≤ P y ∧ P y ≤ 1000000) (hO : okH h t u) {x : Nat} (hx : x ≤ 1000000) : 0 ≤ Bg P t u h x ∧ Bg P t u h x ≤ 1020000000000 := by
  have h1 := psum_rng (P := P) x (fun y _ => hP y)
  have h2 := hsum_rng (t := t) (u := u) (x := x) h (fun k hk => by have := hO.2.1 k hk; omega)
  have h3 := hO.1
  unfold Bg
  omega
theorem psum_lt {P : Int → Int} (hP : ∀ y : Int, 1 ≤ P y ∧ P y ≤ 1000000) {x y : Nat} (h : x < y) : psum P x < psum P y := by
  obtain ⟨d, rfl⟩ : ∃ d, y = x + d := ⟨y - x, by omega⟩
  rw [psum_add]
  have := psum_rng (P := fun z => P (x + z)) d (fun z _ => hP _)
  omega
theorem Bg_lt {P : Int → Int} {t u : Nat → Int32} {h : Nat} (hP : ∀ y : Int, 1 ≤ P y ∧ P y ≤ 1000000) (hO : okH h t u) {x y : Nat} (hxy : x < y) : Bg P t u h x < Bg P t u h y := by
  have h1 := psum_lt hP hxy
  have h2 := hsum_mono (t := t) (u := u) (x := x) (y := y) (by omega) h (fun k hk => by have := hO.2.1 k hk; omega)
  unfold Bg
  omega
theorem Bg_le {P : Int → Int} {t u : Nat → Int32} {h : Nat} (hP : ∀ y : Int, 1 ≤ P y ∧ P y ≤ 1000000) (hO : okH h t u) {x y : Nat} (hxy : x ≤ y) : Bg P t u h x ≤ Bg P t u h y := by
  rcases Nat.lt_or_eq_of_le hxy with q | q
  · exact Int.le_of_lt (Bg_lt hP hO q)
  · rw [q]; omega
/-- r is the last tick that has begun at tm -/
def lastB (B : Nat → Int) (tm r : Int) : Prop := (r = -1 ∧ tm < B 0) ∨ (0 ≤ r ∧ r < 1000000 ∧ B r.toNat ≤ tm ∧ tm < B (r.toNat + 1)) ∨ (r = 1000000 ∧ B 1000000 ≤ tm)
theorem lastB_u {B : Nat → Int} {tm r q : Int} (hB : ∀ x y : Nat, x ≤ y → B x ≤ B y) (h1 : lastB B tm r) (h2 : lastB B tm q) : r = q := by
  rcases h1 with ⟨a1, a2⟩ | ⟨a1, a2, a3, a4⟩ | ⟨a1, a2⟩ <;> rcases h2 with ⟨b1, b2⟩ | ⟨b1, b2, b3, b4⟩ | ⟨b1, b2⟩
  · omega
  · have := hB 0 q.toNat (by omega); omega
  · have := hB 0 1000000 (by omega); omega
  · have := hB 0 r.toNat (by omega); omega
  · rcases Int.lt_trichotomy r q with c | c | c
    · have := hB (r.toNat + 1) q.toNat (by omega); omega
    · exact c
    · have := hB (q.toNat + 1) r.toNat (by omega); omega
  · have := hB (r.toNat + 1) 1000000 (by omega); omega
  · have := hB 0 1000000 (by omega); omega
  · have := hB (q.toNat + 1) 1000000 (by omega); omega
  · omega
/-- r is the first tick that begins when B x * k is at least F -/
def tkOf (B : Nat → Int) (F k r : Int) : Prop := (r = -1 ∧ ∀ x : Nat, x ≤ 1000000 → B x * k < F) ∨ (0 ≤ r ∧ r ≤ 1000000 ∧ F ≤ B r.toNat * k ∧ ∀ x : Nat, x < r.toNat → B x * k < F)
theorem tkOf_u {B : Nat → Int} {F k r q : Int} (h1 : tkOf B F k r) (h2 : tkOf B F k q) : r = q := by
  rcases h1 with ⟨a1, a2⟩ | ⟨a1, a2, a3, a4⟩ <;> rcases h2 with ⟨b1, b2⟩ | ⟨b1, b2, b3, b4⟩
  · omega
  · have := a2 q.toNat (by omega); omega
  · have := b2 r.toNat (by omega); omega
  · rcases Int.lt_trichotomy r q with c | c | c
    · have := b4 r.toNat (by omega); omega
    · exact c
    · have := a4 q.toNat (by omega); omega
theorem ceil_le {F k b : Int} (hk : 0 < k) : (F + k - 1) / k ≤ b ↔ F ≤ b * k := by
  constructor
  · intro h
    have h1 := dv_bnd (a := F + k - 1) hk
    have h2 : ((F + k - 1) / k) * k ≤ b * k := Int.mul_le_mul_of_nonneg_right h (by omega)
    rw [Int.add_mul, Int.one_mul] at h1
    omega
  · intro h
    have : (F + k - 1) / k < b + 1 := Int.ediv_lt_of_lt_mul hk (by rw [Int.add_mul, Int.one_mul]; omega)
    omega
theorem div_lt_iff {a b c : Int} (hb : 0 < b) : a / b < c ↔ a < c * b := by
  constructor
  · intro h
    have h1 := dv_bnd (a := a) hb
    have h2 : (a / b + 1) * b ≤ c * b := Int.mul_le_mul_of_nonneg_right (by omega) (by omega)
    omega
  · intro h; exact Int.ediv_lt_of_lt_mul hb h
def sameA (n : Nat) (t s f l : Nat → Int32) (n' : Nat) (t' s' f' l' : Nat → Int32) : Prop := n' = n ∧ t' = t ∧ s' = s ∧ f' = f ∧ l' = l
def cIns (n : Nat) (t s f l : Nat → Int32) (x sv fv lv : Int32) (r : Int) (n' : Nat) (t' s' f' l' : Nat → Int32) : Prop :=
  ((insS n t s x.toInt ∨ btw n t x.toInt (x.toInt + sv.toInt)) ∧ r = -3 ∧ sameA n t s f l n' t' s' f' l') ∨
  (¬ insS n t s x.toInt ∧ ¬ btw n t x.toInt (x.toInt + sv.toInt) ∧ cPut n t s f l x sv fv lv r n' t' s' f' l')
def cStep (n : Nat) (t s f l : Nat → Int32) (x p : Int32) (r : Int) (n' : Nat) (t' s' f' l' : Nat → Int32) : Prop :=
  ((x.toInt < 0 ∨ 999999 < x.toInt ∨ p.toInt < 1 ∨ 1000000 < p.toInt) ∧ r = -2 ∧ sameA n t s f l n' t' s' f' l') ∨
  ((0 ≤ x.toInt ∧ x.toInt ≤ 999999 ∧ 1 ≤ p.toInt ∧ p.toInt ≤ 1000000) ∧ cIns n t s f l x 0 p p r n' t' s' f' l')
def cSlope (n : Nat) (t s f l : Nat → Int32) (x k p q : Int32) (r : Int) (n' : Nat) (t' s' f' l' : Nat → Int32) : Prop :=
  ((x.toInt < 0 ∨ 999999 < x.toInt ∨ k.toInt < 1 ∨ 2000 < k.toInt ∨ p.toInt < 1 ∨ 1000000 < p.toInt ∨ q.toInt < 1 ∨ 1000000 < q.toInt ∨ 1000000 < x.toInt + k.toInt) ∧ r = -2 ∧ sameA n t s f l n' t' s' f' l') ∨
  ((0 ≤ x.toInt ∧ x.toInt ≤ 999999 ∧ 1 ≤ k.toInt ∧ k.toInt ≤ 2000 ∧ 1 ≤ p.toInt ∧ p.toInt ≤ 1000000 ∧ 1 ≤ q.toInt ∧ q.toInt ≤ 1000000 ∧ x.toInt + k.toInt ≤ 1000000) ∧ cIns n t s f l x k p q r n' t' s' f' l')
def cMod (P : Int → Int) (n : Nat) (t s f l : Nat → Int32) (x u v : Int32) (r : Int) (n' : Nat) (t' s' f' l' : Nat → Int32) : Prop :=
  ((x.toInt < 1 ∨ 999999 < x.toInt ∨ u.toInt < 1 ∨ 1000 < u.toInt ∨ v.toInt < 1 ∨ 1000 < v.toInt) ∧ r = -2 ∧ sameA n t s f l n' t' s' f' l') ∨
  ((1 ≤ x.toInt ∧ x.toInt ≤ 999999 ∧ 1 ≤ u.toInt ∧ u.toInt ≤ 1000 ∧ 1 ≤ v.toInt ∧ v.toInt ≤ 1000) ∧
    (((P (x.toInt - 1) * u.toInt / v.toInt < 1 ∨ 1000000 < P (x.toInt - 1) * u.toInt / v.toInt) ∧ r = -3 ∧ sameA n t s f l n' t' s' f' l') ∨
     (∃ (w : Int32) (q : Int), w.toInt = P (x.toInt - 1) * u.toInt / v.toInt ∧ 1 ≤ w.toInt ∧ w.toInt ≤ 1000000 ∧ cIns n t s f l x 0 w w q n' t' s' f' l' ∧ ((q < 0 ∧ r = q) ∨ (0 ≤ q ∧ r = w.toInt)))))
def hHold (n : Nat) (t u : Nat → Int32) (x w : Int32) (r : Int) (n' : Nat) (t' u' : Nat → Int32) : Prop :=
  ((x.toInt < 0 ∨ 1000000 < x.toInt ∨ w.toInt < 0 ∨ 1000000000 < w.toInt) ∧ r = -2 ∧ n' = n ∧ t' = t ∧ u' = u) ∨
  ((0 ≤ x.toInt ∧ x.toInt ≤ 1000000 ∧ w.toInt = 0) ∧ hRem n t u x r n' t' u') ∨
  ((0 ≤ x.toInt ∧ x.toInt ≤ 1000000 ∧ 1 ≤ w.toInt ∧ w.toInt ≤ 1000000000) ∧ hPut n t u x w r n' t' u')
def tTap (n : Nat) (f : Nat → Int64) (w : Int64) (r : Int) (n' : Nat) (f' : Nat → Int64) : Prop :=
  ((w.toInt < 0 ∨ 1000000000000 < w.toInt) ∧ r = -2 ∧ n' = n ∧ f' = f) ∨
  ((0 ≤ w.toInt ∧ w.toInt ≤ 1000000000000) ∧ tAdd n f w r n' f')

/-! the line that fits the taps -/
def abv (n : Nat) (f : Nat → Int64) : Int := n * sP f n - sI n * sT f n
def blw (n : Nat) : Int := n * sQ n - sI n * sI n
def sD (f : Nat → Int64) (n : Nat) : Nat → Int
  | 0 => 0
  | k + 1 => sD f n k + (2 * (k : Int) - n + 1) * (f k).toInt
theorem sD_eq {f : Nat → Int64} {n : Nat} : ∀ k : Nat, sD f n k = 2 * sP f k - ((n : Int) - 1) * sT f k := by
  intro k
  induction k with
  | zero => simp [sD, sP, sT]
  | succ k ih =>
    simp only [sD, sP, sT]
    rw [ih, Int.mul_add ((n : Int) - 1)]
    have e : (2 * (k : Int) - n + 1) * (f k).toInt = 2 * ((f k).toInt * k) - ((n : Int) - 1) * (f k).toInt := by
      rw [show 2 * (k : Int) - n + 1 = 2 * k - ((n : Int) - 1) by omega, Int.sub_mul, Int.mul_assoc, Int.mul_comm (k : Int)]
    omega
theorem sT_le {f : Nat → Int64} {n : Nat} {v : Int} : ∀ k : Nat, k ≤ n → (∀ i : Nat, i < n → (f i).toInt ≤ v) → sT f k ≤ k * v := by
  intro k
  induction k with
  | zero => intro _ _; simp [sT]
  | succ k ih =>
    intro h1 h2
    have := ih (by omega) h2
    have := h2 k (by omega)
    simp only [sT]
    rw [show ((k + 1 : Nat) : Int) = (k : Int) + 1 by omega, Int.add_mul]; omega
theorem sD_nn {f : Nat → Int64} : ∀ n : Nat, (∀ i j : Nat, i < j → j < n → (f i).toInt < (f j).toInt) → 0 ≤ 2 * sP f n - ((n : Int) - 1) * sT f n := by
  intro n
  induction n with
  | zero => intro _; simp [sP, sT]
  | succ n ih =>
    intro h
    have h1 := ih (fun i j hij hj => h i j hij (by omega))
    have h2 := sT_le (f := f) (n := n) (v := (f n).toInt) n (by omega) (fun i hi => Int.le_of_lt (h i n hi (by omega)))
    simp only [sP, sT]
    rw [show ((n + 1 : Nat) : Int) - 1 = (n : Int) by omega, Int.mul_add (n : Int)]
    rw [Int.sub_mul, Int.one_mul] at h1
    rw [Int.mul_comm (f n).toInt]
    omega
theorem abv_two {f : Nat → Int64} (n : Nat) : 2 * abv n f = n * (2 * sP f n - ((n : Int) - 1) * sT f n) := by
  unfold abv
  have h := sI_two n
  have e1 : 2 * (sI n * sT f n) = (n : Int) * ((n - 1) * sT f n) := by
    rw [← Int.mul_assoc, Int.mul_comm 2 (sI n), h, Int.mul_assoc]
  have e2 : 2 * ((n : Int) * sP f n) = n * (2 * sP f n) := by
    rw [← Int.mul_assoc, Int.mul_comm 2, Int.mul_assoc]
  rw [Int.mul_sub, Int.mul_sub, e1, e2]
theorem abv_rng {n : Nat} {f : Nat → Int64} (h : okT n f) : 0 ≤ abv n f ∧ abv n f ≤ 100000000000000000 := by
  have h0 := abv_two (f := f) n
  have h1 := sD_nn n h.2.2
  have h2 : 0 ≤ (n : Int) * (2 * sP f n - ((n : Int) - 1) * sT f n) := Int.mul_nonneg (by omega) h1
  have h3 := sP_b n h.1 h.2.1
  have h4 := sT_b n h.2.1
  have h5 := sI_b n h.1
  have hn := h.1
  have b1 := mul_bnd (show 0 ≤ (n : Int) ∧ (n : Int) ≤ 40 by omega) (show 0 ≤ sP f n ∧ sP f n ≤ 1600000000000000 by omega)
  have b2 := mul_bnd (show 0 ≤ sI n ∧ sI n ≤ 1600 by omega) (show 0 ≤ sT f n ∧ sT f n ≤ 40000000000000 by omega)
  refine ⟨by omega, ?_⟩
  unfold abv
  omega
theorem blw_all : ∀ n : Nat, n < 41 → (n < 2 → blw n = 0) ∧ (2 ≤ n → 1 ≤ blw n) ∧ blw n ≤ 2560000 ∧ 12 * blw n = n * ((n : Int) * (n * n - 1)) := by decide
/-- the whole number nearest to a / b, of two the lesser -/
def nearP (a b r : Int) : Prop := (2 * r - 1) * b < 2 * a ∧ 2 * a ≤ (2 * r + 1) * b
theorem nearP_u {a b r q : Int} (hb : 0 < b) (h1 : nearP a b r) (h2 : nearP a b q) : r = q := by
  have k1 : (2 * r - 1) * b < (2 * q + 1) * b := Int.lt_of_lt_of_le h1.1 h2.2
  have k2 : (2 * q - 1) * b < (2 * r + 1) * b := Int.lt_of_lt_of_le h2.1 h1.2
  have k3 := Int.lt_of_mul_lt_mul_right k1 (by omega)
  have k4 := Int.lt_of_mul_lt_mul_right k2 (by omega)
  omega
theorem nearP_c {a b r c : Int} (hc : 0 < c) : nearP (c * a) (c * b) r ↔ nearP a b r := by
  unfold nearP
  have e1 : ∀ z : Int, z * (c * b) = c * (z * b) := fun z => by rw [← Int.mul_assoc, Int.mul_comm z c, Int.mul_assoc]
  have e2 : 2 * (c * a) = c * (2 * a) := by rw [← Int.mul_assoc, Int.mul_comm 2 c, Int.mul_assoc]
  rw [e1, e1, e2]
  constructor
  · rintro ⟨h1, h2⟩
    exact ⟨Int.lt_of_mul_lt_mul_left h1 (by omega), Int.le_of_mul_le_mul_left h2 hc⟩
  · rintro ⟨h1, h2⟩
    exact ⟨Int.mul_lt_mul_of_pos_left h1 hc, Int.mul_le_mul_of_nonneg_left h2 (by omega)⟩
theorem near_lo {a b : Int} (hb : 0 < b) (h : 2 * (a % b) ≤ b) : nearP a b (a / b) := by
  have h1 : a % b + b * (a / b) = a := Int.emod_add_mul_ediv a b
  have h2 : 0 ≤ a % b := Int.emod_nonneg _ (by omega)
  unfold nearP
  rw [Int.sub_mul, Int.add_mul, Int.one_mul, Int.mul_assoc, Int.mul_comm (a / b) b]
  omega
theorem near_hi {a b : Int} (hb : 0 < b) (h : b < 2 * (a % b)) : nearP a b (a / b + 1) := by
  have h1 : a % b + b * (a / b) = a := Int.emod_add_mul_ediv a b
  have h2 : a % b < b := Int.emod_lt_of_pos _ hb
  unfold nearP
  rw [Int.sub_mul, Int.add_mul, Int.one_mul, Int.mul_assoc, Int.add_mul, Int.one_mul, Int.mul_comm (a / b) b]
  omega
theorem near_0 {a b : Int} (hb : 0 < b) (h0 : 0 ≤ a) (h : 2 * a ≤ b) : nearP a b 0 := by
  unfold nearP
  omega
theorem near_c {a b : Int} (hb : 0 < b) : nearP a b ((2 * a - b + 2 * b - 1) / (2 * b)) := by
  have h1 := dv_bnd (a := 2 * a - b + 2 * b - 1) (b := 2 * b) (by omega)
  unfold nearP
  obtain ⟨q, hq⟩ : ∃ q, q = (2 * a - b + 2 * b - 1) / (2 * b) := ⟨_, rfl⟩
  rw [← hq] at h1 ⊢
  rw [Int.add_mul, Int.one_mul] at h1
  have e : q * (2 * b) = 2 * q * b := by rw [← Int.mul_assoc, Int.mul_comm q 2]
  rw [e] at h1
  rw [Int.sub_mul, Int.add_mul, Int.one_mul]
  omega
theorem gcd_sc {a b c : Nat} (hc : 0 < c) : c * a / Nat.gcd (c * a) (c * b) = a / Nat.gcd a b := by
  rw [Nat.gcd_mul_left, Nat.mul_div_mul_left _ _ hc]
def fitS (a b : Int) (side r : Int) : Prop := (side = 0 ∧ r = a / (Nat.gcd a.toNat b.toNat : Nat)) ∨ (side = 1 ∧ r = b / (Nat.gcd a.toNat b.toNat : Nat))
theorem mul_ge1 {a b : Int} (ha : 1 ≤ a) (hb : 1 ≤ b) : 1 ≤ a * b := by
  have := Int.mul_le_mul (a := 1) (b := 1) (c := a) (d := b) ha hb (by omega) (by omega)
  omega
theorem cPut_r {n : Nat} {t s f l : Nat → Int32} {x sv fv lv : Int32} {r : Int} {n' : Nat} {t' s' f' l' : Nat → Int32} (h : cPut n t s f l x sv fv lv r n' t' s' f' l') : r = -4 ∨ 0 ≤ r := by
  rcases h with ⟨j, -, -, h, -⟩ | ⟨-, -, h, -⟩ | ⟨j, -, -, -, h, -⟩ <;> omega

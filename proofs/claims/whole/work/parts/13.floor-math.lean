/-! sums of quotients rounded downward -/
def fs (a b m : Int) : Nat → Int
  | 0 => 0
  | n + 1 => fs a b m n + (a * n + b) / m
theorem sI_two : ∀ n : Nat, sI n * 2 = (n : Int) * (n - 1) := by
  intro n
  induction n with
  | zero => simp [sI]
  | succ n ih =>
    simp only [sI]
    have e : ((n + 1 : Nat) : Int) * (((n + 1 : Nat) : Int) - 1) = (n : Int) * (n - 1) + 2 * n := by
      rw [show ((n + 1 : Nat) : Int) - 1 = n by omega, show ((n + 1 : Nat) : Int) = (n : Int) + 1 by omega, Int.add_mul, Int.mul_sub]
      omega
    omega
theorem fs_red {a b m : Int} (hm : 0 < m) : ∀ n : Nat, fs a b m n = a / m * sI n + n * (b / m) + fs (a % m) (b % m) m n := by
  intro n
  induction n with
  | zero => simp [fs, sI]
  | succ n ih =>
    simp only [fs, sI]
    have h1 : a % m + m * (a / m) = a := Int.emod_add_mul_ediv a m
    have h2 : b % m + m * (b / m) = b := Int.emod_add_mul_ediv b m
    have e : a * n + b = (a % m * n + b % m) + (a / m * n + b / m) * m := by
      have h3 : a * n = a % m * n + (m * (a / m)) * n := by rw [← Int.add_mul, h1]
      have h4 : (a / m * n + b / m) * m = (m * (a / m)) * n + m * (b / m) := by
        rw [Int.add_mul, Int.mul_comm (b / m) m, Int.mul_assoc, Int.mul_comm (n : Int) m, ← Int.mul_assoc, Int.mul_comm (a / m) m]
      omega
    rw [e, Int.add_mul_ediv_right _ _ (by omega), ih]
    have h5 : a / m * (sI n + n) = a / m * sI n + a / m * n := Int.mul_add _ _ _
    have h6 : ((n + 1 : Nat) : Int) * (b / m) = n * (b / m) + b / m := by
      rw [show ((n + 1 : Nat) : Int) = (n : Int) + 1 by omega, Int.add_mul, Int.one_mul]
    omega
theorem fs_one {a m r : Int} (ha : 0 < a) : ∀ y : Nat, fs m (r + a) a y = fs m r a y + y := by
  intro y
  induction y with
  | zero => simp [fs]
  | succ y ih =>
    simp only [fs]
    have e : m * y + (r + a) = (m * y + r) + 1 * a := by omega
    rw [e, Int.add_mul_ediv_right _ _ (by omega), ih]
    omega
theorem fs_sh {a m r : Int} : ∀ y : Nat, fs m r a (y + 1) = r / a + fs m (r + m) a y := by
  intro y
  induction y with
  | zero => simp [fs]
  | succ y ih =>
    rw [show fs m r a (y + 1 + 1) = fs m r a (y + 1) + (m * ((y + 1 : Nat) : Int) + r) / a from rfl, ih]
    simp only [fs]
    have e : m * ((y + 1 : Nat) : Int) + r = m * y + (r + m) := by
      rw [show ((y + 1 : Nat) : Int) = (y : Int) + 1 by omega, Int.mul_add]; omega
    rw [e]; omega
theorem fs_flip {a m b : Int} (ha : 0 < a) (ham : a < m) (hb : 0 ≤ b) (hbm : b < m) : ∀ n : Nat, fs a b m n = fs m ((a * n + b) % m) a ((a * n + b) / m).toNat := by
  intro n
  induction n with
  | zero =>
    have e : (a * ((0 : Nat) : Int) + b) / m = 0 := by
      rw [show a * ((0 : Nat) : Int) + b = b by simp]
      exact Int.ediv_eq_zero_of_lt hb hbm
    rw [e]; rfl
  | succ n ih =>
    simp only [fs]
    obtain ⟨T, hT⟩ : ∃ T : Int, T = a * n + b := ⟨_, rfl⟩
    have e1 : a * ((n + 1 : Nat) : Int) + b = T + a := by
      rw [hT, show ((n + 1 : Nat) : Int) = (n : Int) + 1 by omega, Int.mul_add]; omega
    rw [e1, ih, ← hT]
    have hT0 : 0 ≤ T := by
      rw [hT]
      have := Int.mul_nonneg (a := a) (b := (n : Int)) (by omega) (by omega)
      omega
    have h1 : T % m + m * (T / m) = T := Int.emod_add_mul_ediv T m
    have h2 : 0 ≤ T % m := Int.emod_nonneg _ (by omega)
    have h3 : T % m < m := Int.emod_lt_of_pos _ (by omega)
    have h4 : 0 ≤ T / m := Int.ediv_nonneg hT0 (by omega)
    have hc : m * (T / m) = T / m * m := Int.mul_comm _ _
    by_cases h : T % m + a < m
    · have q1 : (T + a) / m = T / m := dv_uniq (by omega) (by omega) (by rw [Int.add_mul, Int.one_mul]; omega)
      have q2 : (T + a) % m = T % m + a := by
        have h5 : (T + a) % m + m * ((T + a) / m) = T + a := Int.emod_add_mul_ediv _ m
        rw [q1] at h5; omega
      rw [q1, q2, fs_one ha]
      omega
    · have hs : (T / m + 1) * m = T / m * m + m := by rw [Int.add_mul, Int.one_mul]
      have hs2 : (T / m + 1 + 1) * m = T / m * m + m + m := by rw [Int.add_mul, hs, Int.one_mul]
      have q1 : (T + a) / m = T / m + 1 := dv_uniq (by omega) (by omega) (by omega)
      have q2 : (T + a) % m = T % m + a - m := by
        have h5 : (T + a) % m + m * ((T + a) / m) = T + a := Int.emod_add_mul_ediv _ m
        rw [q1, Int.mul_add] at h5; omega
      rw [q1, q2, show (T / m + 1).toNat = (T / m).toNat + 1 by omega, fs_sh, show T % m + a - m + m = T % m + a by omega, fs_one ha,
        Int.ediv_eq_zero_of_lt (show 0 ≤ T % m + a - m by omega) (by omega)]
      omega
theorem fs_0 {b m : Int} (hb : 0 ≤ b) (hbm : b < m) : ∀ n : Nat, fs 0 b m n = 0 := by
  intro n
  induction n with
  | zero => rfl
  | succ n ih => simp only [fs]; rw [ih, Int.zero_mul, Int.zero_add, Int.zero_add, Int.ediv_eq_zero_of_lt hb hbm]
/-- a round of Euclid's way -/
theorem eu_step {a b m : Int} (hm : 0 < m) (n : Nat) : fs a b m n = a / m * sI n + n * (b / m) + fs m ((a % m * n + b % m) % m) (a % m) ((a % m * n + b % m) / m).toNat := by
  have h1 : 0 ≤ a % m := Int.emod_nonneg _ (by omega)
  have h2 : a % m < m := Int.emod_lt_of_pos _ hm
  have h3 : 0 ≤ b % m := Int.emod_nonneg _ (by omega)
  have h4 : b % m < m := Int.emod_lt_of_pos _ hm
  rw [fs_red hm]
  by_cases h : a % m = 0
  · rw [h, fs_0 h3 h4, Int.zero_mul, Int.zero_add, Int.ediv_eq_zero_of_lt h3 h4]; rfl
  · rw [fs_flip (by omega) h2 h3 h4]
theorem mul_abs {a b A B : Int} (h1 : -A ≤ a ∧ a ≤ A) (h2 : 0 ≤ b ∧ b ≤ B) : -(A * B) ≤ a * b ∧ a * b ≤ A * B := by
  have hA : 0 ≤ A := by omega
  have h3 : a * b ≤ A * b := Int.mul_le_mul_of_nonneg_right h1.2 h2.1
  have h4 : A * b ≤ A * B := Int.mul_le_mul_of_nonneg_left h2.2 hA
  have h5 : -A * b ≤ a * b := Int.mul_le_mul_of_nonneg_right h1.1 h2.1
  rw [Int.neg_mul] at h5
  omega
theorem div_abs {a b A : Int} (hb : 0 < b) (h : -A ≤ a ∧ a ≤ A) : -A ≤ a / b ∧ a / b ≤ A := by
  have hA : 0 ≤ A := by omega
  have h1 := dv_bnd (a := a) hb
  constructor
  · refine Int.le_ediv_of_mul_le hb ?_
    have : -A * b ≤ -A * 1 := Int.mul_le_mul_of_nonpos_left (by omega) (by omega)
    omega
  · have h2 : a / b < A + 1 := Int.ediv_lt_of_lt_mul hb (by
      have : (A + 1) * 1 ≤ (A + 1) * b := Int.mul_le_mul_of_nonneg_left (by omega) (by omega)
      omega)
    omega
/-- the product halves -/
theorem halve {a b : Int} (hb : 0 < b) (h : b ≤ a) : 2 * (a % b * b) ≤ b * a := by
  have h1 : a % b + b * (a / b) = a := Int.emod_add_mul_ediv a b
  have h2 : a % b < b := Int.emod_lt_of_pos _ hb
  have h3 : 1 ≤ a / b := Int.le_ediv_of_mul_le hb (by omega)
  have h4 : b * 1 ≤ b * (a / b) := Int.mul_le_mul_of_nonneg_left h3 (by omega)
  have h5 : 2 * (a % b) ≤ a := by omega
  have h6 : 2 * (a % b) * b ≤ a * b := Int.mul_le_mul_of_nonneg_right h5 (by omega)
  rw [Int.mul_assoc, Int.mul_comm a b] at h6
  exact h6
theorem pow_step {x y : Int} {k : Nat} {N : Int} (h : x * 2 ^ k ≤ N) (hy : 2 * y ≤ x) : y * 2 ^ (k + 1) ≤ N := by
  have h1 : (0 : Int) ≤ 2 ^ k := Int.le_of_lt (Int.pow_pos (by omega))
  have h2 : 2 * y * 2 ^ k ≤ x * 2 ^ k := Int.mul_le_mul_of_nonneg_right hy h1
  have h3 : y * 2 ^ (k + 1) = 2 * y * 2 ^ k := by
    rw [Int.pow_succ, Int.mul_comm (2 ^ k) 2, ← Int.mul_assoc, Int.mul_comm y 2]
  omega
theorem pow_end {x : Int} {k : Nat} (h : x * 2 ^ k ≤ 2 ^ 180) (hk : 181 ≤ k) : x ≤ 0 := by
  rcases Int.lt_or_le 0 x with h1 | h1
  · have h2 : (2 : Int) ^ 181 ≤ 2 ^ k := by
      have := Nat.pow_le_pow_right (n := 2) (by omega) hk
      exact_mod_cast this
    have h3 : 1 * (2 : Int) ^ k ≤ x * 2 ^ k := Int.mul_le_mul_of_nonneg_right (by omega) (Int.le_of_lt (Int.pow_pos (by omega)))
    have h4 : (2 : Int) ^ 181 = 2 * 2 ^ 180 := by decide
    have h5 : (0 : Int) < 2 ^ 180 := by decide
    omega
  · exact h1
theorem eu_inv {al up : Int} {k : Nat} (h : k = 0 ∨ (al < up ∧ al * up * 2 ^ (k - 1) ≤ 2 ^ 180)) (hal : 0 < al) (hb : al ≤ 1000000000000000000) : up % al < al ∧ up % al * al * 2 ^ (k + 1 - 1) ≤ 2 ^ 180 := by
  have h2 : up % al < al := Int.emod_lt_of_pos _ hal
  have h3 : 0 ≤ up % al := Int.emod_nonneg _ (by omega)
  refine ⟨h2, ?_⟩
  rcases h with h | ⟨h, h1⟩
  · have h4 := mul_bnd (show 0 ≤ up % al ∧ up % al ≤ 1000000000000000000 by omega) (show 0 ≤ al ∧ al ≤ 1000000000000000000 by omega)
    rw [h, show 0 + 1 - 1 = 0 from rfl, Int.pow_zero, Int.mul_one]
    have h5 : (1000000000000000000 : Int) * 1000000000000000000 ≤ 2 ^ 180 := by decide
    omega
  · by_cases hk : k = 0
    · rw [hk] at h1 ⊢
      have h4 := mul_bnd (show 0 ≤ up % al ∧ up % al ≤ 1000000000000000000 by omega) (show 0 ≤ al ∧ al ≤ 1000000000000000000 by omega)
      rw [show 0 + 1 - 1 = 0 from rfl, Int.pow_zero, Int.mul_one]
      have h5 : (1000000000000000000 : Int) * 1000000000000000000 ≤ 2 ^ 180 := by decide
      omega
    · rw [show k + 1 - 1 = (k - 1) + 1 by omega]
      exact pow_step h1 (halve hal (by omega))
theorem eu_end {al up : Int} {k : Nat} (h : k = 0 ∨ (al < up ∧ al * up * 2 ^ (k - 1) ≤ 2 ^ 180)) (hk : 182 ≤ k) (h0 : 0 ≤ al) : al = 0 := by
  rcases h with h | ⟨h, h1⟩
  · omega
  · have h2 := pow_end h1 (by omega)
    rcases Int.lt_or_le 0 al with h3 | h3
    · have : 0 < al * up := Int.mul_pos h3 (by omega)
      omega
    · omega
theorem top_le {a b m : Int} {n : Int} (hm : 0 < m) (hn : 0 ≤ n) : 0 ≤ (a % m * n + b % m) / m ∧ (a % m * n + b % m) / m ≤ n ∧ 0 ≤ a % m * n + b % m ∧ (a % m = 0 → (a % m * n + b % m) / m = 0) := by
  have h1 : 0 ≤ a % m := Int.emod_nonneg _ (by omega)
  have h2 : a % m < m := Int.emod_lt_of_pos _ hm
  have h3 : 0 ≤ b % m := Int.emod_nonneg _ (by omega)
  have h4 : b % m < m := Int.emod_lt_of_pos _ hm
  have h5 : 0 ≤ a % m * n := Int.mul_nonneg h1 hn
  refine ⟨Int.ediv_nonneg (by omega) (by omega), ?_, by omega, fun h => ?_⟩
  · have h6 : a % m * n ≤ m * n := Int.mul_le_mul_of_nonneg_right (by omega) hn
    have h7 : (a % m * n + b % m) / m < n + 1 := Int.ediv_lt_of_lt_mul hm (by
      rw [Int.add_mul, Int.one_mul, Int.mul_comm n m]; omega)
    omega
  · rw [h, Int.zero_mul, Int.zero_add]; exact Int.ediv_eq_zero_of_lt h3 h4
theorem gcd_st {a b : Int} (ha : 0 ≤ a) (hb : 0 < b) : Nat.gcd b.toNat (a % b).toNat = Nat.gcd a.toNat b.toNat := by
  obtain ⟨x, rfl⟩ := Int.eq_ofNat_of_zero_le ha
  obtain ⟨y, rfl⟩ := Int.eq_ofNat_of_zero_le (Int.le_of_lt hb)
  rw [show ((x : Int) % (y : Int)).toNat = x % y by rw [← Int.natCast_emod]; rfl]
  show Nat.gcd y (x % y) = Nat.gcd x y
  rw [Nat.gcd_comm x y, Nat.gcd_rec y x, Nat.gcd_comm]

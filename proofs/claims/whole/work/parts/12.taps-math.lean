def sI : Nat → Int
  | 0 => 0
  | n + 1 => sI n + n
def sQ : Nat → Int
  | 0 => 0
  | n + 1 => sQ n + (n : Int) * n
def sT (f : Nat → Int64) : Nat → Int
  | 0 => 0
  | n + 1 => sT f n + (f n).toInt
def sP (f : Nat → Int64) : Nat → Int
  | 0 => 0
  | n + 1 => sP f n + (f n).toInt * n
def okT (n : Nat) (f : Nat → Int64) : Prop := n ≤ 40 ∧ (∀ k : Nat, k < n → 0 ≤ (f k).toInt ∧ (f k).toInt ≤ 1000000000000) ∧ (∀ i j : Nat, i < j → j < n → (f i).toInt < (f j).toInt)
theorem mul_bnd {a b A B : Int} (h1 : 0 ≤ a ∧ a ≤ A) (h2 : 0 ≤ b ∧ b ≤ B) : 0 ≤ a * b ∧ a * b ≤ A * B :=
  ⟨Int.mul_nonneg h1.1 h2.1, Int.mul_le_mul h1.2 h2.2 h2.1 (by omega)⟩
theorem sI_b : ∀ n : Nat, n ≤ 40 → 0 ≤ sI n ∧ sI n ≤ 40 * n := by
  intro n
  induction n with
  | zero => intro _; simp [sI]
  | succ n ih => intro h; have := ih (by omega); simp only [sI]; omega
theorem sQ_b : ∀ n : Nat, n ≤ 40 → 0 ≤ sQ n ∧ sQ n ≤ 1600 * n := by
  intro n
  induction n with
  | zero => intro _; simp [sQ]
  | succ n ih =>
    intro h
    have := ih (by omega)
    have h2 := mul_bnd (a := (n : Int)) (b := n) (A := 40) (B := 40) (by omega) (by omega)
    simp only [sQ]; omega
theorem sT_b {f : Nat → Int64} : ∀ n : Nat, (∀ k : Nat, k < n → 0 ≤ (f k).toInt ∧ (f k).toInt ≤ 1000000000000) → 0 ≤ sT f n ∧ sT f n ≤ 1000000000000 * n := by
  intro n
  induction n with
  | zero => intro _; simp [sT]
  | succ n ih => intro h; have := ih (fun k hk => h k (by omega)); have := h n (by omega); simp only [sT]; omega
theorem sP_b {f : Nat → Int64} : ∀ n : Nat, n ≤ 40 → (∀ k : Nat, k < n → 0 ≤ (f k).toInt ∧ (f k).toInt ≤ 1000000000000) → 0 ≤ sP f n ∧ sP f n ≤ 40000000000000 * n := by
  intro n
  induction n with
  | zero => intro _ _; simp [sP]
  | succ n ih =>
    intro hn h
    have := ih (by omega) (fun k hk => h k (by omega))
    have h2 := mul_bnd (b := (n : Int)) (B := 40) (h n (by omega)) (by omega)
    simp only [sP]; omega

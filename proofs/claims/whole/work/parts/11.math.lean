/-! what the two programs speak of, as functions of Ints -/
def hsum (t u : Nat → Int32) (x : Int) : Nat → Int
  | 0 => 0
  | n + 1 => hsum t u x n + (if (t n).toInt ≤ x then (u n).toInt else 0)
def bi (t : Nat → Int32) (x : Int) : Nat → Int
  | 0 => -1
  | n + 1 => if (t n).toInt ≤ x ∧ (bi t x n = -1 ∨ (t (bi t x n).toNat).toInt < (t n).toInt) then (n : Int) else bi t x n
def seg (f l s k : Int) : Int := if s ≤ k then l else f + (l - f) * k / s
def paceF (t s f l : Nat → Int32) (n : Nat) (x : Int) : Int :=
  if bi t x n = -1 then 1000 else seg (f (bi t x n).toNat).toInt (l (bi t x n).toNat).toInt (s (bi t x n).toNat).toInt (x - (t (bi t x n).toNat).toInt)
def psum (P : Int → Int) : Nat → Int
  | 0 => 0
  | n + 1 => P n + psum P n
def okH (n : Nat) (t u : Nat → Int32) : Prop := n ≤ 20 ∧ (∀ k : Nat, k < n → 0 ≤ (t k).toInt ∧ (t k).toInt ≤ 1000000 ∧ 1 ≤ (u k).toInt ∧ (u k).toInt ≤ 1000000000) ∧ (∀ i j : Nat, i < n → j < n → (t i).toInt = (t j).toInt → i = j)
def okM (n : Nat) (t s f l : Nat → Int32) : Prop := n ≤ 40 ∧ (∀ k : Nat, k < n → 0 ≤ (t k).toInt ∧ (t k).toInt ≤ 999999 ∧ 0 ≤ (s k).toInt ∧ (s k).toInt ≤ 2000 ∧ (t k).toInt + (s k).toInt ≤ 1000000 ∧ 1 ≤ (f k).toInt ∧ (f k).toInt ≤ 1000000 ∧ 1 ≤ (l k).toInt ∧ (l k).toInt ≤ 1000000) ∧ (∀ i j : Nat, i < n → j < n → (t i).toInt = (t j).toInt → i = j) ∧ (∀ i j : Nat, i < n → j < n → (t i).toInt < (t j).toInt → (t i).toInt + (s i).toInt ≤ (t j).toInt)
def srt (n : Nat) (t : Nat → Int32) : Prop := ∀ i j : Nat, i < j → j < n → (t i).toInt < (t j).toInt
theorem hsum_rng {t u : Nat → Int32} {x : Int} : ∀ (n : Nat), (∀ k : Nat, k < n → 0 ≤ (u k).toInt ∧ (u k).toInt ≤ 1000000000) → 0 ≤ hsum t u x n ∧ hsum t u x n ≤ 1000000000 * n := by
  intro n
  induction n with
  | zero => intro _; simp [hsum]
  | succ n ih =>
    intro h
    have h1 := ih (fun k hk => h k (by omega))
    have h2 := h n (by omega)
    simp only [hsum]
    split <;> omega
/-! quotients rounded downward -/
theorem dv_uniq {a b q : Int} (hb : 0 < b) (h1 : q * b ≤ a) (h2 : a < (q + 1) * b) : a / b = q := by
  have h3 : q ≤ a / b := Int.le_ediv_of_mul_le hb h1
  have h4 : a / b < q + 1 := Int.ediv_lt_of_lt_mul hb h2
  omega
theorem dv_bnd {a b : Int} (hb : 0 < b) : a / b * b ≤ a ∧ a < (a / b + 1) * b := by
  have h5 : a % b + b * (a / b) = a := Int.emod_add_mul_ediv a b
  have h6 : 0 ≤ a % b := Int.emod_nonneg _ (by omega)
  have h7 : a % b < b := Int.emod_lt_of_pos _ hb
  have h9 : a / b * b = b * (a / b) := Int.mul_comm _ _
  have h10 : (a / b + 1) * b = a / b * b + b := by rw [Int.add_mul, Int.one_mul]
  omega
/-- the quotient towards 0 of a number below 0 -/
theorem td_neg {a b : Int} (ha : a < 0) (hb : 0 < b) : a ≤ a.tdiv b * b ∧ a.tdiv b * b < a + b ∧ a.tdiv b * b ≤ 0 ∧ a ≤ a.tdiv b ∧ a.tdiv b ≤ 0 := by
  have h1 : a.tdiv b = -((-a) / b) := by
    have h : (- -a).tdiv b = -((-a).tdiv b) := Int.neg_tdiv _ _
    rw [Int.neg_neg] at h
    rw [h, Int.tdiv_eq_ediv_of_nonneg (by omega)]
  have h2 := dv_bnd (a := -a) hb
  have h3 : 0 ≤ (-a) / b := Int.ediv_nonneg (by omega) (by omega)
  have h4 : (-a) / b ≤ -a := Int.ediv_le_self _ (by omega)
  have h5 : ((-a) / b + 1) * b = (-a) / b * b + b := by rw [Int.add_mul, Int.one_mul]
  have h6 : 0 ≤ (-a) / b * b := Int.mul_nonneg h3 (by omega)
  rw [h1]
  have h7 : -((-a) / b) * b = -((-a) / b * b) := Int.neg_mul _ _
  omega
theorem fd_hit {a b : Int} (hb : 0 < b) (h : a.tdiv b * b = a) : a.tdiv b = a / b := (dv_uniq hb (by omega) (by rw [Int.add_mul, Int.one_mul]; omega)).symm
theorem fd_off {a b : Int} (ha : a < 0) (hb : 0 < b) (h : a.tdiv b * b ≠ a) : a.tdiv b - 1 = a / b := by
  have h1 := td_neg ha hb
  refine (dv_uniq hb ?_ ?_).symm
  · rw [Int.sub_mul, Int.one_mul]; omega
  · rw [Int.sub_add_cancel]; omega
theorem ti_tdiv {x y : Int32} {a b : Int} (hx : x.toInt = a) (hy : y.toInt = b) (h2 : 0 < b) : (x / y).toInt = a.tdiv b := by
  rw [Int32.toInt_div_of_ne_right _ _ (fun e => by rw [e] at hy; have : ((-1 : Int32)).toInt = -1 := by decide
                                                   omega), hx, hy]
theorem tl_tdiv {x y : Int64} {a b : Int} (hx : x.toInt = a) (hy : y.toInt = b) (h2 : 0 < b) : (x / y).toInt = a.tdiv b := by
  rw [Int64.toInt_div_of_ne_right _ _ (fun e => by rw [e] at hy; have : ((-1 : Int64)).toInt = -1 := by decide
                                                   omega), hx, hy]
theorem bv_msb {w : Nat} {x : BitVec w} : x.msb = true ↔ x.toInt < 0 := by rw [BitVec.msb_eq_toInt]; exact decide_eq_true_iff
theorem ix_sgn {x y : Int32} (hy : 0 < y.toInt) : (x ^^^ y).toInt < 0 ↔ x.toInt < 0 := by
  rw [← Int32.toInt_toBitVec, ← Int32.toInt_toBitVec, Int32.toBitVec_xor]
  rw [← Int32.toInt_toBitVec] at hy
  have h1 : y.toBitVec.msb = false := by
    rw [← Bool.not_eq_true, bv_msb]; omega
  rw [← bv_msb, ← bv_msb, BitVec.msb_xor, h1, Bool.xor_false]
theorem lx_sgn {x y : Int64} (hy : 0 < y.toInt) : (x ^^^ y).toInt < 0 ↔ x.toInt < 0 := by
  rw [← Int64.toInt_toBitVec, ← Int64.toInt_toBitVec, Int64.toBitVec_xor]
  rw [← Int64.toInt_toBitVec] at hy
  have h1 : y.toBitVec.msb = false := by
    rw [← Bool.not_eq_true, bv_msb]; omega
  rw [← bv_msb, ← bv_msb, BitVec.msb_xor, h1, Bool.xor_false]
/-- the last place of a list of numbers that holds x; -1: none -/
def hfind (t : Nat → Int32) (x : Int) : Nat → Int
  | 0 => -1
  | n + 1 => if (t n).toInt = x then (n : Int) else hfind t x n
theorem hfind_rng {t : Nat → Int32} {x : Int} : ∀ n : Nat, -1 ≤ hfind t x n ∧ hfind t x n < n ∧ (0 ≤ hfind t x n → (t (hfind t x n).toNat).toInt = x) := by
  intro n
  induction n with
  | zero => simp [hfind]
  | succ n ih =>
    simp only [hfind]
    split
    · rename_i h
      refine ⟨by omega, by omega, fun _ => ?_⟩
      rw [Int.toNat_natCast]; exact h
    · obtain ⟨h1, h2, h3⟩ := ih
      exact ⟨h1, by omega, h3⟩
theorem hfind_none {t : Nat → Int32} {x : Int} : ∀ n : Nat, hfind t x n = -1 → ∀ k : Nat, k < n → (t k).toInt ≠ x := by
  intro n
  induction n with
  | zero => intro _ k hk; omega
  | succ n ih =>
    intro h k hk
    simp only [hfind] at h
    split at h
    · omega
    · rename_i h1
      rcases Nat.lt_succ_iff_lt_or_eq.mp hk with h2 | h2
      · exact ih h k h2
      · rw [h2]; exact h1
def hPut (n : Nat) (t u : Nat → Int32) (x w : Int32) (r : Int) (n' : Nat) (t' u' : Nat → Int32) : Prop :=
  (0 ≤ hfind t x.toInt n ∧ r = n ∧ n' = n ∧ t' = upd t (hfind t x.toInt n).toNat x ∧ u' = upd u (hfind t x.toInt n).toNat w) ∨
  (hfind t x.toInt n = -1 ∧ n = 20 ∧ r = -4 ∧ n' = n ∧ t' = t ∧ u' = u) ∨
  (hfind t x.toInt n = -1 ∧ n < 20 ∧ r = n + 1 ∧ n' = n + 1 ∧ t' = upd t n x ∧ u' = upd u n w)
def hRem (n : Nat) (t u : Nat → Int32) (x : Int32) (r : Int) (n' : Nat) (t' u' : Nat → Int32) : Prop :=
  (0 ≤ hfind t x.toInt n ∧ r = n' ∧ n = n' + 1 ∧ t' = upd t (hfind t x.toInt n).toNat (t n') ∧ u' = upd u (hfind t x.toInt n).toNat (u n')) ∨
  (hfind t x.toInt n = -1 ∧ r = n ∧ n' = n ∧ t' = t ∧ u' = u)
def tAdd (n : Nat) (f : Nat → Int64) (w : Int64) (r : Int) (n' : Nat) (f' : Nat → Int64) : Prop :=
  (0 < n ∧ w.toInt ≤ (f (n - 1)).toInt ∧ r = -3 ∧ n' = n ∧ f' = f) ∨
  ((0 < n → (f (n - 1)).toInt < w.toInt) ∧ n = 40 ∧ r = -4 ∧ n' = n ∧ f' = f) ∨
  ((0 < n → (f (n - 1)).toInt < w.toInt) ∧ n < 40 ∧ r = n + 1 ∧ n' = n + 1 ∧ f' = vp_updL f n w)
theorem hfind_no {t : Nat → Int32} {x : Int} {n : Nat} (h : (t n).toInt ≠ x) : hfind t x (n + 1) = hfind t x n := by simp only [hfind]; rw [if_neg h]
theorem hfind_yes {t : Nat → Int32} {x : Int} {n : Nat} (h : (t n).toInt = x) : hfind t x (n + 1) = n := by simp only [hfind]; rw [if_pos h]
theorem fd_lo {a b q : Int} (ha : a < 0) (hb : 0 < b) (hq : q = a.tdiv b) (hne : q * b ≠ a) (hlo : -2147483648 ≤ a) : -2147483647 ≤ q := by
  have h := td_neg ha hb
  rw [← hq] at h
  rcases Int.lt_or_le q (-2147483647) with h1 | h1
  · have e : q = a := by omega
    have e2 : b = 1 := by
      rcases Int.lt_or_le b 2 with h2 | h2
      · omega
      · have := Int.mul_le_mul_of_nonpos_left (a := q) (b := b) (c := 2) (by omega) h2
        omega
    rw [e2] at hne; omega
  · exact h1
theorem tl_tmod {x y : Int64} {a b : Int} (hx : x.toInt = a) (hy : y.toInt = b) (h2 : 0 < b) : (x - x / y * y).toInt = a.tmod b := by
  have hr := tl_rng x
  have hd := tl_tdiv hx hy h2
  have h5 : a.tmod b + b * (a.tdiv b) = a := Int.tmod_add_mul_tdiv a b
  have h9 : a.tdiv b * b = b * (a.tdiv b) := Int.mul_comm _ _
  rcases Int.lt_or_le a 0 with h1 | h1
  · have h := td_neg h1 h2
    have hm := tl_mul hd hy (by omega) (by omega)
    rw [tl_sub hx hm (by omega) (by omega)]
    omega
  · have h10 : a.tdiv b = a / b := Int.tdiv_eq_ediv_of_nonneg h1
    have h4 : 0 ≤ a / b := Int.ediv_nonneg h1 (by omega)
    have h6 : 0 ≤ a / b * b := Int.mul_nonneg h4 (by omega)
    have h7 := (dv_bnd (a := a) h2).1
    rw [← h10] at h6 h7
    have hm := tl_mul hd hy (by omega) (by omega)
    rw [tl_sub hx hm (by omega) (by omega)]
    omega
theorem fm_neg {a b : Int} (ha : a < 0) (hb : 0 < b) : -b < a.tmod b ∧ a.tmod b ≤ 0 ∧ (a.tmod b = 0 → a % b = 0) ∧ (a.tmod b ≠ 0 → a % b = a.tmod b + b) := by
  have h5 : a.tmod b + b * (a.tdiv b) = a := Int.tmod_add_mul_tdiv a b
  have h9 : a.tdiv b * b = b * (a.tdiv b) := Int.mul_comm _ _
  have h := td_neg ha hb
  have h6 : a % b + b * (a / b) = a := Int.emod_add_mul_ediv a b
  refine ⟨by omega, by omega, fun e => ?_, fun e => ?_⟩
  · have := fd_hit hb (a := a) (by omega)
    rw [← this] at h6; omega
  · have := fd_off ha hb (by omega)
    rw [← this, Int.mul_sub, Int.mul_one] at h6; omega
theorem mt_ofF {l : Launch} {y : MethodName} {ws ws' : List Cond} {rm : Room} {Pc : Array Value → State → Prop} {Qc : Array Value → State → Outcome → State → Prop} {mc ms : Nat} {free : Addr → Prop} {cc : ByteArray} {maxL : Nat} {ret : Option FieldType}
    (hy : plainFor y = true) (hw : ws = Cond.code y cc maxL ret :: ws')
    (body : ∀ p e s m args below meth c s₁, BodyLoose p l y (headSpec ws rm) cc maxL ret e s m args below meth c s₁ → c.maxLocals = maxL → Pc args s →
      W p l e (headSpec ws rm).room s m args below meth c s.heap [] 0 0 (MQ below Qc args s mc ms free) (entryFrame m args maxL)) : Met l y ws rm Pc Qc mc ms free := by
  refine MetFree.of_bodySF (code := cc) (maxLocals := maxL) (ret := ret) hy ?_ ?_
  · intro args s m h hn
    obtain ⟨meth, c, h1, h2, h3, h4, h5, h6, -, -⟩ := Cond.code_spec hn (atoms_spec (ws := ws) h _ (by rw [hw]; exact List.mem_cons_self))
    exact ⟨meth, c, h1, h2, h3, h4, h5, h6⟩
  · intro p e s m args below meth c s₁ B hml hP _
    have hh0 : s₁.heap = s.heap := by rw [B.state]; rfl
    obtain ⟨t, a1, o, b1, b2, b3⟩ := body p e s m args below meth c s₁ B hml hP s₁ hh0 (Stand.of_body B)
    exact ⟨t, o, a1, b1, b2, ⟨b3.1, b3.2⟩⟩

theorem hPut_ok {n : Nat} {t u : Nat → Int32} {x w : Int32} {r : Int} {n' : Nat} {t' u' : Nat → Int32} (hO : okH n t u) (hx : 0 ≤ x.toInt ∧ x.toInt ≤ 1000000) (hw : 1 ≤ w.toInt ∧ w.toInt ≤ 1000000000) (h : hPut n t u x w r n' t' u') : okH n' t' u' := by
  have hr := hfind_rng (t := t) (x := x.toInt) n
  rcases h with ⟨h0, -, h2, h3, h4⟩ | ⟨h0, -, -, h2, h3, h4⟩ | ⟨h0, hn, -, h2, h3, h4⟩
  · subst h2 h3 h4
    rw [upd_same (a := t) (i_ext (hr.2.2 h0))]
    refine ⟨hO.1, fun k hk => ?_, hO.2.2⟩
    have h5 := hO.2.1 k hk
    by_cases e : k = (hfind t x.toInt n').toNat
    · rw [← e, pk_us]; omega
    · rw [pk_un e]; exact h5
  · subst h2 h3 h4
    exact hO
  · subst h2 h3 h4
    have hne := hfind_none (t := t) (x := x.toInt) n h0
    refine ⟨by omega, fun k hk => ?_, fun a b ha hb hab => ?_⟩
    · by_cases e : k = n
      · rw [e, pk_us, pk_us]; omega
      · rw [pk_un e, pk_un e]; exact hO.2.1 k (by omega)
    · by_cases ea : a = n <;> by_cases eb : b = n
      · omega
      · rw [ea, pk_us, pk_un eb] at hab
        exact absurd hab.symm (hne b (by omega))
      · rw [eb, pk_us, pk_un ea] at hab
        exact absurd hab (hne a (by omega))
      · rw [pk_un ea, pk_un eb] at hab
        exact hO.2.2 a b (by omega) (by omega) hab
theorem hRem_ok {n : Nat} {t u : Nat → Int32} {x : Int32} {r : Int} {n' : Nat} {t' u' : Nat → Int32} (hO : okH n t u) (h : hRem n t u x r n' t' u') : okH n' t' u' := by
  have hr := hfind_rng (t := t) (x := x.toInt) n
  have h9 := hO.1
  rcases h with ⟨h0, -, h2, h3, h4⟩ | ⟨h0, -, h2, h3, h4⟩
  · subst h2 h3 h4
    obtain ⟨i, hi⟩ : ∃ i, i = (hfind t x.toInt (n' + 1)).toNat := ⟨_, rfl⟩
    rw [← hi]
    refine ⟨by omega, fun k hk => ?_, fun a b ha hb hab => ?_⟩
    · by_cases e : k = i
      · rw [e, pk_us, pk_us]; exact hO.2.1 n' (by omega)
      · rw [pk_un e, pk_un e]; exact hO.2.1 k (by omega)
    · by_cases ea : a = i <;> by_cases eb : b = i
      · omega
      · rw [ea, pk_us, pk_un eb] at hab
        have := hO.2.2 n' b (by omega) (by omega) hab; omega
      · rw [eb, pk_us, pk_un ea] at hab
        have := hO.2.2 a n' (by omega) (by omega) hab; omega
      · rw [pk_un ea, pk_un eb] at hab
        exact hO.2.2 a b (by omega) (by omega) hab
  · subst h2 h3 h4
    exact hO
theorem hHold_ok {n : Nat} {t u : Nat → Int32} {x w : Int32} {r : Int} {n' : Nat} {t' u' : Nat → Int32} (hO : okH n t u) (h : hHold n t u x w r n' t' u') : okH n' t' u' := by
  rcases h with ⟨-, -, h2, h3, h4⟩ | ⟨h0, h1⟩ | ⟨h0, h1⟩
  · subst h2 h3 h4; exact hO
  · exact hRem_ok hO h1
  · exact hPut_ok hO (by omega) (by omega) h1
theorem hPut_u {n : Nat} {t u : Nat → Int32} {x w : Int32} {r q : Int} {n1 n2 : Nat} {t1 u1 t2 u2 : Nat → Int32} (h1 : hPut n t u x w r n1 t1 u1) (h2 : hPut n t u x w q n2 t2 u2) : r = q ∧ n2 = n1 ∧ t2 = t1 ∧ u2 = u1 := by
  rcases h1 with ⟨a0, a1, a2, a3, a4⟩ | ⟨a0, a5, a1, a2, a3, a4⟩ | ⟨a0, a5, a1, a2, a3, a4⟩ <;> rcases h2 with ⟨b0, b1, b2, b3, b4⟩ | ⟨b0, b5, b1, b2, b3, b4⟩ | ⟨b0, b5, b1, b2, b3, b4⟩ <;>
    first | omega | exact ⟨by omega, by omega, by rw [a3, b3], by rw [a4, b4]⟩
theorem hRem_u {n : Nat} {t u : Nat → Int32} {x : Int32} {r q : Int} {n1 n2 : Nat} {t1 u1 t2 u2 : Nat → Int32} (h1 : hRem n t u x r n1 t1 u1) (h2 : hRem n t u x q n2 t2 u2) : r = q ∧ n2 = n1 ∧ t2 = t1 ∧ u2 = u1 := by
  rcases h1 with ⟨a0, a1, a2, a3, a4⟩ | ⟨a0, a1, a2, a3, a4⟩ <;> rcases h2 with ⟨b0, b1, b2, b3, b4⟩ | ⟨b0, b1, b2, b3, b4⟩
  · have e : n2 = n1 := by omega
    subst e
    exact ⟨by omega, rfl, by rw [a3, b3], by rw [a4, b4]⟩
  · omega
  · omega
  · exact ⟨by omega, by omega, by rw [a3, b3], by rw [a4, b4]⟩
theorem hHold_u {n : Nat} {t u : Nat → Int32} {x w : Int32} {r q : Int} {n1 n2 : Nat} {t1 u1 t2 u2 : Nat → Int32} (h1 : hHold n t u x w r n1 t1 u1) (h2 : hHold n t u x w q n2 t2 u2) : r = q ∧ n2 = n1 ∧ t2 = t1 ∧ u2 = u1 := by
  rcases h1 with ⟨a0, a1, a2, a3, a4⟩ | ⟨a0, a1⟩ | ⟨a0, a1⟩ <;> rcases h2 with ⟨b0, b1, b2, b3, b4⟩ | ⟨b0, b1⟩ | ⟨b0, b1⟩ <;>
    first | omega | exact hRem_u a1 b1 | exact hPut_u a1 b1 | exact ⟨by omega, by omega, by rw [a3, b3], by rw [a4, b4]⟩
theorem tAdd_ok {n : Nat} {f : Nat → Int64} {w : Int64} {r : Int} {n' : Nat} {f' : Nat → Int64} (hO : okT n f) (hw : 0 ≤ w.toInt ∧ w.toInt ≤ 1000000000000) (h : tAdd n f w r n' f') : okT n' f' := by
  rcases h with ⟨-, -, -, h2, h3⟩ | ⟨-, -, -, h2, h3⟩ | ⟨h0, hn, -, h2, h3⟩
  · subst h2 h3; exact hO
  · subst h2 h3; exact hO
  · subst h2 h3
    refine ⟨by omega, fun k hk => ?_, fun i j hij hj => ?_⟩
    · by_cases e : k = n
      · rw [e, pk_uLs]; exact hw
      · rw [pk_uLn e]; exact hO.2.1 k (by omega)
    · by_cases e : j = n
      · rw [e, pk_uLs, pk_uLn (by omega)]
        have h4 := h0 (by omega)
        rcases Nat.lt_or_ge i (n - 1) with q | q
        · have := hO.2.2 i (n - 1) q (by omega); omega
        · rw [show i = n - 1 by omega]; exact h4
      · rw [pk_uLn e, pk_uLn (by omega)]; exact hO.2.2 i j hij (by omega)
theorem tTap_ok {n : Nat} {f : Nat → Int64} {w : Int64} {r : Int} {n' : Nat} {f' : Nat → Int64} (hO : okT n f) (h : tTap n f w r n' f') : okT n' f' := by
  rcases h with ⟨-, -, h2, h3⟩ | ⟨h0, h1⟩
  · subst h2 h3; exact hO
  · exact tAdd_ok hO h0 h1
theorem tAdd_u {n : Nat} {f : Nat → Int64} {w : Int64} {r q : Int} {n1 n2 : Nat} {f1 f2 : Nat → Int64} (h1 : tAdd n f w r n1 f1) (h2 : tAdd n f w q n2 f2) : r = q ∧ n2 = n1 ∧ f2 = f1 := by
  rcases h1 with ⟨a0, a1, a2, a3, a4⟩ | ⟨a0, a1, a2, a3, a4⟩ | ⟨a0, a1, a2, a3, a4⟩ <;> rcases h2 with ⟨b0, b1, b2, b3, b4⟩ | ⟨b0, b1, b2, b3, b4⟩ | ⟨b0, b1, b2, b3, b4⟩ <;>
    first | omega | exact ⟨by omega, by omega, by rw [a4, b4]⟩ | (have := a0 b0; omega) | (have := b0 a0; omega)
theorem tTap_u {n : Nat} {f : Nat → Int64} {w : Int64} {r q : Int} {n1 n2 : Nat} {f1 f2 : Nat → Int64} (h1 : tTap n f w r n1 f1) (h2 : tTap n f w q n2 f2) : r = q ∧ n2 = n1 ∧ f2 = f1 := by
  rcases h1 with ⟨a0, a1, a2, a3⟩ | ⟨a0, a1⟩ <;> rcases h2 with ⟨b0, b1, b2, b3⟩ | ⟨b0, b1⟩
  · exact ⟨by omega, by omega, by rw [a3, b3]⟩
  · omega
  · omega
  · exact tAdd_u a1 b1
theorem okT_0 {f : Nat → Int64} : okT 0 f := ⟨by omega, fun k hk => by omega, fun i j _ hj => by omega⟩
theorem fit_sc {n : Nat} {f : Nat → Int64} (hO : okT n f) : 12 * abv n f = n * (6 * sD f n n) ∧ 12 * blw n = n * ((n : Int) * (n * n - 1)) ∧ 0 ≤ abv n f ∧ 0 ≤ 6 * sD f n n := by
  have h1 := abv_two (f := f) n
  rw [← sD_eq] at h1
  have h2 := sD_nn n hO.2.2
  rw [← sD_eq] at h2
  have h3 : (n : Int) * (6 * sD f n n) = 6 * (n * sD f n n) := by rw [← Int.mul_assoc, Int.mul_comm (n : Int) 6, Int.mul_assoc]
  exact ⟨by omega, (blw_all n (by have := hO.1; omega)).2.2.2, (abv_rng hO).1, by omega⟩
theorem gcd_int {a b a' b' : Int} {n : Nat} (hn : 0 < n) (ha : 0 ≤ a) (hb : 0 ≤ b) (ha' : 0 ≤ a') (hb' : 0 ≤ b') (h1 : 12 * a = n * a') (h2 : 12 * b = n * b') : a / (Nat.gcd a.toNat b.toNat : Nat) = a' / (Nat.gcd a'.toNat b'.toNat : Nat) := by
  obtain ⟨x, rfl⟩ := Int.eq_ofNat_of_zero_le ha
  obtain ⟨y, rfl⟩ := Int.eq_ofNat_of_zero_le hb
  obtain ⟨z, rfl⟩ := Int.eq_ofNat_of_zero_le ha'
  obtain ⟨w, rfl⟩ := Int.eq_ofNat_of_zero_le hb'
  simp only [Int.toNat_natCast]
  rw [← Int.natCast_ediv, ← Int.natCast_ediv]
  have e1 : 12 * x = n * z := by exact_mod_cast h1
  have e2 : 12 * y = n * w := by exact_mod_cast h2
  rw [← gcd_sc (a := x) (b := y) (c := 12) (by omega), e1, e2, gcd_sc hn]
theorem fit_rel {n : Nat} {f : Nat → Int64} {side r q : Int} (hO : okT n f) (hn : 2 ≤ n) (h1 : fitS (abv n f) (blw n) side r) (h2 : fitS (6 * sD f n n) ((n : Int) * ((n : Int) * n - 1)) side q) : r = q := by
  obtain ⟨k1, k2, k3, k4⟩ := fit_sc hO
  have k5 : 1 ≤ blw n := (blw_all n (by have := hO.1; omega)).2.1 hn
  have k6 : 0 ≤ (n : Int) * ((n : Int) * n - 1) := by
    rcases Int.lt_or_le ((n : Int) * ((n : Int) * n - 1)) 0 with c | c
    · have h9 := Int.mul_nonneg_iff_of_pos_right (a := (n : Int) * ((n : Int) * n - 1)) (b := (n : Int)) (by omega)
      rw [Int.mul_comm, ← k2] at h9
      exact h9.mp (by omega)
    · exact c
  rcases h1 with ⟨a0, a1⟩ | ⟨a0, a1⟩ <;> rcases h2 with ⟨b0, b1⟩ | ⟨b0, b1⟩
  · rw [a1, b1]; exact gcd_int (n := n) (by omega) k3 (by omega) k4 k6 k1 k2
  · omega
  · omega
  · rw [a1, b1, Nat.gcd_comm, Nat.gcd_comm (6 * sD f n n).toNat]; exact gcd_int (n := n) (by omega) (by omega) k3 k6 k4 k2 k1
theorem pace_rel {n : Nat} {f : Nat → Int64} {g r q : Int} (hO : okT n f) (hn : 2 ≤ n) (hg : 1 ≤ g) (h1 : nearP (abv n f) (blw n * g) r) (h2 : nearP (6 * sD f n n) ((n : Int) * ((n : Int) * n - 1) * g) q) : r = q := by
  obtain ⟨k1, k2, k3, k4⟩ := fit_sc hO
  have k5 : 1 ≤ blw n := (blw_all n (by have := hO.1; omega)).2.1 hn
  have e1 := (nearP_c (a := abv n f) (b := blw n * g) (r := r) (c := 12) (by omega)).mpr h1
  have e2 := (nearP_c (a := 6 * sD f n n) (b := (n : Int) * ((n : Int) * n - 1) * g) (r := q) (c := (n : Int)) (by omega)).mpr h2
  have eq : 12 * (blw n * g) = (n : Int) * ((n : Int) * ((n : Int) * n - 1) * g) := by rw [← Int.mul_assoc, k2, Int.mul_assoc]
  rw [k1, eq] at e1
  refine nearP_u ?_ e1 e2
  have h5 := mul_ge1 (a := blw n) (b := g) k5 hg
  rw [← eq]; omega

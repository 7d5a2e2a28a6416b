theorem lrem_lt {x y r : Int64} (hy : y.toInt ≠ 0) (e : r = x - x / y * y) : r.toInt.natAbs < y.toInt.natAbs := by
  have hx := i64_bd x
  have hy2 := i64_bd y
  have h1 : r.toInt = (x.toInt.tmod y.toInt) := by
    subst e
    have hd : x.toInt.tdiv y.toInt * y.toInt + x.toInt.tmod y.toInt = x.toInt := Int.tdiv_mul_add_tmod _ _
    rw [Int64.toInt_sub, Int64.toInt_mul, Int64.toInt_div]
    rw [Int.bmod_mul_bmod, Int.sub_bmod_bmod]
    have e2 : x.toInt - x.toInt.tdiv y.toInt * y.toInt = x.toInt.tmod y.toInt := by omega
    rw [e2]
    have h3 : (x.toInt.tmod y.toInt).natAbs < y.toInt.natAbs := by
      rw [Int.natAbs_tmod]
      exact Nat.mod_lt _ (by omega)
    exact Int.bmod_eq_of_le (by omega) (by omega)
  rw [h1, Int.natAbs_tmod]
  exact Nat.mod_lt _ (by omega)
theorem mul_ten {v b x : Int64} {n : Nat} (hv : v.toInt = 10 ^ n) (hn : n ≤ 17) (hb : b.toInt = 10) (e : x = v * b) : x.toInt = 10 ^ (n + 1) := by
  subst e
  have h1 : (10 : Int) ^ (n + 1) ≤ 10 ^ 18 := by
    have := Nat.pow_le_pow_right (n := 10) (by decide) (by omega : n + 1 ≤ 18)
    exact_mod_cast this
  have h0 : (0 : Int) < 10 ^ (n + 1) := Int.pow_pos (by decide)
  have h2 : (10 : Int) ^ n * 10 = 10 ^ (n + 1) := (Int.pow_succ _ _).symm
  have h3 : (10 : Int) ^ 18 = 1000000000000000000 := by decide
  rw [Int64.toInt_mul, hv, hb, h2]
  exact Int.bmod_eq_of_le (by omega) (by omega)
theorem pow_ge1 (n : Nat) : (1 : Int) ≤ 10 ^ n := Int.pow_pos (by decide)
def TN (f : Nat → Int64) (b : Nat) (n : Int) : Prop := ∀ i : Nat, (i : Int) < n → i % 3 = 0 → (0 ≤ (f (b + i)).toInt ∧ (f (b + i)).toInt ≤ 7) ∧ (0 ≤ (f (b + i + 1)).toInt ∧ (f (b + i + 1)).toInt ≤ 7)
def RN (f : Nat → Int64) (b : Nat) (n : Int) : Prop := ∀ i : Nat, (i : Int) < n → 0 ≤ (f (b + i)).toInt ∧ (f (b + i)).toInt ≤ 6
theorem TN.mono {f : Nat → Int64} {b : Nat} {n k : Int} (h : TN f b n) (hk : k ≤ n) : TN f b k := fun i h1 h2 => h i (by omega) h2
theorem RN.mono {f : Nat → Int64} {b : Nat} {n k : Int} (h : RN f b n) (hk : k ≤ n) : RN f b k := fun i h1 => h i (by omega)
theorem TN.step {f : Nat → Int64} {b : Nat} {i j : Int32} (h : TN f b i.toInt) (h0 : 0 ≤ i.toInt) (hj : j.toInt = i.toInt + 3) (h3 : i.toInt % 3 = 0) (ha : 0 ≤ (f (b + i.toInt.toNat)).toInt ∧ (f (b + i.toInt.toNat)).toInt ≤ 7) (hb : 0 ≤ (f (b + i.toInt.toNat + 1)).toInt ∧ (f (b + i.toInt.toNat + 1)).toInt ≤ 7) : TN f b j.toInt := by
  intro k hk k3
  by_cases q : (k : Int) < i.toInt
  · exact h k q k3
  · have e : k = i.toInt.toNat := by omega
    subst e
    exact ⟨ha, hb⟩
theorem RN.step {f : Nat → Int64} {b : Nat} {i j : Int32} (h : RN f b i.toInt) (h0 : 0 ≤ i.toInt) (hj : j.toInt = i.toInt + 1) (ha : 0 ≤ (f (b + i.toInt.toNat)).toInt ∧ (f (b + i.toInt.toNat)).toInt ≤ 6) : RN f b j.toInt := by
  intro k hk
  by_cases q : (k : Int) < i.toInt
  · exact h k q
  · have e : k = i.toInt.toNat := by omega
    subst e
    exact ha
theorem i64_ext {a b : Int64} (h : a.toInt = b.toInt) : a = b := Int64.toInt_inj.mp h
theorem ar_ladd {a b x : Int64} {A B : Int} (ha : a.toInt = A) (hb : b.toInt = B) (e : x = a + b) (h1 : -9223372036854775808 ≤ A + B) (h2 : A + B ≤ 9223372036854775807) : x.toInt = A + B := by
  subst ha hb e
  rw [Int64.toInt_add]
  exact Int.bmod_eq_of_le (by omega) (by omega)


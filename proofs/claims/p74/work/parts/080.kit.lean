def RBi (ga gb n : Int) : Nat → Int
  | 0 => 0
  | k + 1 => max (RBi ga gb n k) (min (ga + 2 * (k : Int)) (gb + 2 * (n - (k : Int))))
theorem ar_shl1p {b x : Int32} (e : x = 1 <<< (b &&& 31)) (h0 : 0 ≤ b.toInt) (h8 : b.toInt ≤ 8) : x.toInt = ((2 ^ b.toInt.toNat : Nat) : Int) := by
  rcases ar_shl1 e h0 h8 with h | h | h | h | h | h | h | h | h <;> (rw [h.1, h.2]; decide)
theorem two_le {n : Nat} (h : n ≤ 8) : 2 ^ n ≤ 256 := by
  have := Nat.pow_le_pow_right (n := 2) (by decide) h
  exact this
def ZQ (f : Nat → Int32) (m t : Int) (n : Nat) : Prop := ∀ j : Nat, ((256 * (m + 1) ≤ (j : Int) ∧ j < 256 * (n + 1) ∧ j % 256 < 2 ^ n) ∨ (256 * m ≤ (j : Int) ∧ (j : Int) < 256 * m + t)) → (f j).toInt = 0
theorem ZQ.start {f : Nat → Int32} {n : Nat} {m : Int} (hm : m = n) : ZQ f m 0 n := by
  intro j h
  exfalso
  omega
theorem ZQ.step {f : Nat → Int32} {m t t' : Int} {n k : Nat} {v : Int32} (h : ZQ f m t n) (hv : v.toInt = 0) (hk : (k : Int) = 256 * m + t) (ht : t' = t + 1) : ZQ (upd f k v) m t' n := by
  intro j hj
  rcases upd_at f k j v with ⟨_, e⟩ | ⟨ne, e⟩
  · rw [e]; exact hv
  · rw [e]
    apply h
    rcases hj with q | q
    · exact Or.inl q
    · exact Or.inr (by omega)
theorem ZQ.next {f : Nat → Int32} {m t m' : Int} {n : Nat} (h : ZQ f m t n) (ht : ((2 ^ n : Nat) : Int) ≤ t) (hm : m' = m - 1) (h0 : 0 ≤ m) : ZQ f m' 0 n := by
  intro j hj
  rcases hj with ⟨q1, q2, q3⟩ | q
  · apply h
    by_cases z : 256 * (m + 1) ≤ (j : Int)
    · exact Or.inl ⟨z, q2, q3⟩
    · exact Or.inr (by omega)
  · omega


def swp (f : Nat → Int32) (a b : Nat) : Nat → Int32 := upd (upd f a (f b)) b (f a)
def INJ (f : Nat → Int32) (n : Nat) : Prop := ∀ i j : Nat, i < n → j < n → f i = f j → i = j
def LXP (f g : Nat → Int32) (i : Nat) : Prop := (∀ j : Nat, j < i → g j = f j) ∧ (f i).toInt < (g i).toInt
theorem swp_at (f : Nat → Int32) (a b j : Nat) : swp f a b j = if j = b then f a else if j = a then f b else f j := rfl
theorem swp_key {f : Nat → Int32} {n a b : Nat} (ha : a < n) (hb : b < n) : ∀ k : Nat, k < n → ∃ k' : Nat, k' < n ∧ swp f a b k = f k' ∧ (k = b → k' = a) ∧ (k ≠ b → k = a → k' = b) ∧ (k ≠ b → k ≠ a → k' = k) := by
  intro k hk
  by_cases h1 : k = b
  · exact ⟨a, ha, by rw [swp_at, if_pos h1], fun _ => rfl, fun h => absurd h1 h, fun h => absurd h1 h⟩
  · by_cases h2 : k = a
    · exact ⟨b, hb, by rw [swp_at, if_neg h1, if_pos h2], fun h => absurd h h1, fun _ _ => rfl, fun _ h => absurd h2 h⟩
    · exact ⟨k, hk, by rw [swp_at, if_neg h1, if_neg h2], fun h => absurd h h1, fun _ h => absurd h h2, fun _ _ => rfl⟩
theorem INJ.swp {f : Nat → Int32} {n a b : Nat} (h : INJ f n) (ha : a < n) (hb : b < n) : INJ (swp f a b) n := by
  intro i j hi hj e
  obtain ⟨i', p1, p2, p3, p4, p5⟩ := swp_key (f := f) ha hb i hi
  obtain ⟨j', q1, q2, q3, q4, q5⟩ := swp_key (f := f) ha hb j hj
  have r := h i' j' p1 q1 (p2.symm.trans (e.trans q2))
  omega
theorem LXP.start {f : Nat → Int32} {i k : Nat} (hk : i < k) (h : (f i).toInt < (f k).toInt) : LXP f (swp f i k) i := by
  refine ⟨fun j hj => ?_, ?_⟩
  · rw [swp_at, if_neg (by omega), if_neg (by omega)]
  · rw [swp_at, if_neg (by omega), if_pos rfl]
    exact h
theorem LXP.swp {f g : Nat → Int32} {i a b : Nat} (h : LXP f g i) (ha : i < a) (hb : i < b) : LXP f (swp g a b) i := by
  refine ⟨fun j hj => ?_, ?_⟩
  · rw [swp_at, if_neg (by omega), if_neg (by omega)]
    exact h.1 j hj
  · rw [swp_at, if_neg (by omega), if_neg (by omega)]
    exact h.2
def VL (f : Nat → Int32) : Nat → Nat
  | 0 => 0
  | n + 1 => VL f n * 7 + (f n).toInt.toNat
theorem VL.lt {f : Nat → Int32} (h : AR (0) 6 f) : ∀ n, VL f n < 7 ^ n := by
  intro n
  induction n with
  | zero => exact Nat.zero_lt_one
  | succ n ih =>
    have := h n
    have e : 7 ^ (n + 1) = 7 ^ n * 7 := Nat.pow_succ 7 n
    show VL f n * 7 + (f n).toInt.toNat < 7 ^ (n + 1)
    omega
theorem VL.same {f g : Nat → Int32} : ∀ n, (∀ j, j < n → g j = f j) → VL g n = VL f n := by
  intro n
  induction n with
  | zero => intro _; rfl
  | succ n ih =>
    intro h
    show VL g n * 7 + (g n).toInt.toNat = VL f n * 7 + (f n).toInt.toNat
    rw [ih (fun j hj => h j (by omega)), h n (by omega)]
theorem VL.lx {f g : Nat → Int32} {i : Nat} (hf : AR (0) 6 f) (hg : AR (0) 6 g) (h : LXP f g i) : ∀ n, i < n → VL f n < VL g n := by
  intro n
  induction n with
  | zero => intro q; omega
  | succ n ih =>
    intro q
    have a := hf n
    have b := hg n
    show VL f n * 7 + (f n).toInt.toNat < VL g n * 7 + (g n).toInt.toNat
    by_cases e : i = n
    · subst e
      rw [VL.same i h.1]
      have := h.2
      omega
    · have := ih (by omega)
      omega
theorem VL.mu {f g : Nat → Int32} {i n : Nat} (hf : AR (0) 6 f) (hg : AR (0) 6 g) (h : LXP f g i) (hi : i < n) : 7 ^ n - VL g n < 7 ^ n - VL f n := by
  have h1 := VL.lx hf hg h n hi
  have h2 := VL.lt hg n
  omega
theorem ofN_self {x : Int32} (h : 0 ≤ x.toInt) : x = Int32.ofNat x.toInt.toNat := by
  have hb := i32_bd x
  apply i32_ext
  rw [Int32.toInt_ofNat_of_lt (by omega)]
  omega
theorem INJ.id {f : Nat → Int32} {n : Nat} (hn : n ≤ 100) (h : ∀ j : Nat, j < n → f j = Int32.ofNat j) : INJ f n := by
  intro i j hi hj e
  rw [h i hi, h j hj] at e
  have e2 := congrArg Int32.toInt e
  rw [Int32.toInt_ofNat_of_lt (by omega), Int32.toInt_ofNat_of_lt (by omega)] at e2
  omega


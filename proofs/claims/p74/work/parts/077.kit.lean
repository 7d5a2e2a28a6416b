def CHF (i : Nat) (p : Int32) : Int32 := (((BYT i p.toNatClampNeg) &&& 255).toUInt32 % 65536).toInt32
/-- the bytes from b on are text i, n of them -/
def MT (f : Nat → Int32) (b i n : Nat) : Prop := ∀ k : Nat, k < n → f (b + k) = CHF i (Int32.ofNat k)
/-- the word that was read is text i -/
def ISW (f : Nat → Int32) (fr at' tk fk : Int32) (i : Nat) : Prop := fk.toInt = 0 ∧ tk.toInt = 1 ∧ at'.toInt - fr.toInt = (LEN i : Int) ∧ MT f fr.toInt.toNat i (LEN i)
theorem CHF_of {i : Nat} {p : Int32} (h : 0 ≤ p.toInt) : CHF i p = CHF i (Int32.ofNat p.toInt.toNat) := by
  have e : p = Int32.ofNat p.toInt.toNat := by
    have hb := i32_bd p
    apply i32_ext
    rw [Int32.toInt_ofNat_of_lt (by omega)]
    omega
  rw [← e]
theorem MT.zero {f : Nat → Int32} {b i : Nat} : MT f b i 0 := fun k h => absurd h (Nat.not_lt_zero _)
theorem MT.step {f : Nat → Int32} {b i : Nat} {k : Int32} {x c : Int32} {j : Nat} (h : MT f b i k.toInt.toNat) (h0 : 0 ≤ k.toInt) (hj : j = b + k.toInt.toNat) (hx : x = f j) (hc : c = CHF i k) (e : x = c) {n : Nat} (hn : n = k.toInt.toNat + 1) : MT f b i n := by
  intro q hq
  by_cases z : q < k.toInt.toNat
  · exact h q z
  · have e1 : q = k.toInt.toNat := by omega
    subst e1
    rw [← hj, ← hx, e, hc]
    exact CHF_of h0
theorem MT.no {f : Nat → Int32} {b i : Nat} {k : Int32} {x c : Int32} {j : Nat} (h0 : 0 ≤ k.toInt) (hj : j = b + k.toInt.toNat) (hx : x = f j) (hc : c = CHF i k) (e : ¬ x = c) {n : Nat} (hn : k.toInt.toNat < n) : ¬ MT f b i n := by
  intro h
  apply e
  rw [hx, hj, h _ hn, hc]
  exact (CHF_of h0).symm
/-- places 0, 1 and 8 are as they were -/
def KP (g f : Nat → Int32) : Prop := f 0 = g 0 ∧ f 1 = g 1 ∧ f 8 = g 8
theorem KP.put {g f : Nat → Int32} {k : Nat} {v : Int32} (h : KP g f) (hk : k ≠ 0 ∧ k ≠ 1 ∧ k ≠ 8) : KP g (upd f k v) := ⟨(upd_ne (fun e => hk.1 e.symm)).trans h.1, (upd_ne (fun e => hk.2.1 e.symm)).trans h.2.1, (upd_ne (fun e => hk.2.2 e.symm)).trans h.2.2⟩
theorem KP.trans {a b c : Nat → Int32} (h : KP a b) (k : KP b c) : KP a c := ⟨k.1.trans h.1, k.2.1.trans h.2.1, k.2.2.trans h.2.2⟩
theorem upd_eq {f : Nat → Int32} {k : Nat} {v : Int32} : upd f k v k = v := by
  unfold upd
  rw [if_pos rfl]


/-! the reference's world: a row of numbers with bounds by place -/
def RG (lo hi : Int) (a b : Nat) (f : Nat → Int32) : Prop := ∀ j : Nat, a ≤ j → j < b → lo ≤ (f j).toInt ∧ (f j).toInt ≤ hi
def WR (f : Nat → Int32) : Prop := RG (0) 20 0 2 f ∧ RG (0) 10 2 3 f ∧ RG (0) 20 3 4 f ∧ RG (0) 8 4 5 f ∧ RG (0) 7 5 6 f ∧ RG (0) 4 6 7 f ∧ RG (0) 60 7 8 f ∧ RG (0) 1000 8 9 f ∧ RG (0) 30 9 33 f ∧ RG (-99) 99 33 54 f ∧ RG (0) 999 54 62 f ∧ RG (0) 399 62 122 f
def ACTP (f : Nat → Int32) : Prop := ∀ j : Nat, 62 ≤ j → j < 122 → (f j).toInt < 164 ∨ (200 ≤ (f j).toInt ∧ (f j).toInt < 207) ∨ 300 ≤ (f j).toInt
def FI (f : Nat → Int32) : Prop := WR f ∧ ACTP f
abbrev FARI (f : Nat → Int32) : Prop := (0 < (f 8).toInt ∨ 0 < (f 4).toInt ∨ 0 < (f 5).toInt ∨ 0 < (f 7).toInt) → 1 ≤ (f 0).toInt ∧ 1 ≤ (f 1).toInt
def WI (f : Nat → Int32) : Prop := FI f ∧ FARI f
def IM (f : Nat → Int32) : Prop := ∀ k : Nat, k < 3 → WI (fun j => f (122 * k + j))
def WRok (k : Nat) (v : Int) : Prop := (0 ≤ k → k < 2 → (0 : Int) ≤ v ∧ v ≤ 20) ∧ (2 ≤ k → k < 3 → (0 : Int) ≤ v ∧ v ≤ 10) ∧ (3 ≤ k → k < 4 → (0 : Int) ≤ v ∧ v ≤ 20) ∧ (4 ≤ k → k < 5 → (0 : Int) ≤ v ∧ v ≤ 8) ∧ (5 ≤ k → k < 6 → (0 : Int) ≤ v ∧ v ≤ 7) ∧ (6 ≤ k → k < 7 → (0 : Int) ≤ v ∧ v ≤ 4) ∧ (7 ≤ k → k < 8 → (0 : Int) ≤ v ∧ v ≤ 60) ∧ (8 ≤ k → k < 9 → (0 : Int) ≤ v ∧ v ≤ 1000) ∧ (9 ≤ k → k < 33 → (0 : Int) ≤ v ∧ v ≤ 30) ∧ (33 ≤ k → k < 54 → (-99 : Int) ≤ v ∧ v ≤ 99) ∧ (54 ≤ k → k < 62 → (0 : Int) ≤ v ∧ v ≤ 999) ∧ (62 ≤ k → k < 122 → (0 : Int) ≤ v ∧ v ≤ 399)
theorem upd_at (f : Nat → Int32) (k j : Nat) (v : Int32) : (j = k ∧ upd f k v j = v) ∨ (j ≠ k ∧ upd f k v j = f j) := by
  by_cases h : j = k
  · exact Or.inl ⟨h, by unfold upd; rw [if_pos h]⟩
  · exact Or.inr ⟨h, by unfold upd; rw [if_neg h]⟩
theorem RG.put {lo hi : Int} {a b k : Nat} {f : Nat → Int32} {v : Int32} (h : RG lo hi a b f) (hv : a ≤ k → k < b → lo ≤ v.toInt ∧ v.toInt ≤ hi) : RG lo hi a b (upd f k v) := by
  intro j h1 h2
  rcases upd_at f k j v with ⟨rfl, e⟩ | ⟨-, e⟩
  · rw [e]; exact hv h1 h2
  · rw [e]; exact h j h1 h2
theorem WR.put {k : Nat} {f : Nat → Int32} {v : Int32} (h : WR f) (hv : WRok k v.toInt) : WR (upd f k v) := by
  unfold WR at h ⊢
  unfold WRok at hv
  exact ⟨RG.put h.1 hv.1, RG.put h.2.1 hv.2.1, RG.put h.2.2.1 hv.2.2.1, RG.put h.2.2.2.1 hv.2.2.2.1, RG.put h.2.2.2.2.1 hv.2.2.2.2.1, RG.put h.2.2.2.2.2.1 hv.2.2.2.2.2.1, RG.put h.2.2.2.2.2.2.1 hv.2.2.2.2.2.2.1, RG.put h.2.2.2.2.2.2.2.1 hv.2.2.2.2.2.2.2.1, RG.put h.2.2.2.2.2.2.2.2.1 hv.2.2.2.2.2.2.2.2.1, RG.put h.2.2.2.2.2.2.2.2.2.1 hv.2.2.2.2.2.2.2.2.2.1, RG.put h.2.2.2.2.2.2.2.2.2.2.1 hv.2.2.2.2.2.2.2.2.2.2.1, RG.put h.2.2.2.2.2.2.2.2.2.2.2 hv.2.2.2.2.2.2.2.2.2.2.2⟩
theorem FI.put {k : Nat} {f : Nat → Int32} {v : Int32} (h : FI f) (hv : WRok k v.toInt) (hA : 62 ≤ k → k < 122 → v.toInt < 164 ∨ (200 ≤ v.toInt ∧ v.toInt < 207) ∨ 300 ≤ v.toInt) : FI (upd f k v) := by
  refine ⟨h.1.put hv, fun j h1 h2 => ?_⟩
  rcases upd_at f k j v with ⟨rfl, e⟩ | ⟨-, e⟩
  · rw [e]; exact hA h1 h2
  · rw [e]; exact h.2 j h1 h2
theorem WI.put {k : Nat} {f : Nat → Int32} {v : Int32} (h : WI f) (hv : WRok k v.toInt) (hA : 62 ≤ k → k < 122 → v.toInt < 164 ∨ (200 ≤ v.toInt ∧ v.toInt < 207) ∨ 300 ≤ v.toInt) (hF : (1 ≤ (f 0).toInt ∧ 1 ≤ (f 1).toInt ∧ k ≠ 0 ∧ k ≠ 1) ∨ (k ≠ 0 ∧ k ≠ 1 ∧ k ≠ 4 ∧ k ≠ 5 ∧ k ≠ 7 ∧ k ≠ 8)) : WI (upd f k v) := by
  refine ⟨h.1.put hv hA, ?_⟩
  have ne : ∀ j : Nat, j ≠ k → upd f k v j = f j := fun j q => by unfold upd; rw [if_neg q]
  intro q
  rcases hF with ⟨a, b, c, d⟩ | ⟨c, d, c4, c5, c7, c8⟩
  · rw [ne 0 (fun z => c z.symm), ne 1 (fun z => d z.symm)]; exact ⟨a, b⟩
  · rw [ne 0 (fun z => c z.symm), ne 1 (fun z => d z.symm)]
    rw [ne 8 (fun z => c8 z.symm), ne 4 (fun z => c4 z.symm), ne 5 (fun z => c5 z.symm), ne 7 (fun z => c7 z.symm)] at q
    exact h.2 q
theorem WI.ext {f g : Nat → Int32} (h : WI f) (e : ∀ j, j < 122 → g j = f j) : WI g := by
  refine ⟨⟨?_, fun j h1 h2 => by rw [e j h2]; exact h.1.2 j h1 h2⟩, fun q => ?_⟩
  · have key : ∀ {lo hi : Int} {a b : Nat}, b ≤ 122 → RG lo hi a b f → RG lo hi a b g := fun hb q j h1 h2 => by rw [e j (by omega)]; exact q j h1 h2
    have h0 := h.1.1
    unfold WR at h0 ⊢
    exact ⟨key (by decide) h0.1, key (by decide) h0.2.1, key (by decide) h0.2.2.1, key (by decide) h0.2.2.2.1, key (by decide) h0.2.2.2.2.1, key (by decide) h0.2.2.2.2.2.1, key (by decide) h0.2.2.2.2.2.2.1, key (by decide) h0.2.2.2.2.2.2.2.1, key (by decide) h0.2.2.2.2.2.2.2.2.1, key (by decide) h0.2.2.2.2.2.2.2.2.2.1, key (by decide) h0.2.2.2.2.2.2.2.2.2.2.1, key (by decide) h0.2.2.2.2.2.2.2.2.2.2.2⟩
  · rw [e 8 (by decide), e 4 (by decide), e 5 (by decide), e 7 (by decide)] at q
    rw [e 0 (by decide), e 1 (by decide)]
    exact h.2 q
theorem FI.ext {f g : Nat → Int32} (h : FI f) (e : ∀ j, j < 122 → g j = f j) : FI g := by
  refine ⟨?_, fun j h1 h2 => by rw [e j h2]; exact h.2 j h1 h2⟩
  have key : ∀ {lo hi : Int} {a b : Nat}, b ≤ 122 → RG lo hi a b f → RG lo hi a b g := fun hb q j h1 h2 => by rw [e j (by omega)]; exact q j h1 h2
  have h0 := h.1
  unfold WR at h0 ⊢
  exact ⟨key (by decide) h0.1, key (by decide) h0.2.1, key (by decide) h0.2.2.1, key (by decide) h0.2.2.2.1, key (by decide) h0.2.2.2.2.1, key (by decide) h0.2.2.2.2.2.1, key (by decide) h0.2.2.2.2.2.2.1, key (by decide) h0.2.2.2.2.2.2.2.1, key (by decide) h0.2.2.2.2.2.2.2.2.1, key (by decide) h0.2.2.2.2.2.2.2.2.2.1, key (by decide) h0.2.2.2.2.2.2.2.2.2.2.1, key (by decide) h0.2.2.2.2.2.2.2.2.2.2.2⟩
theorem FI.zero {f : Nat → Int32} (e : ∀ j, j < 122 → f j = 0) : FI f := by
  have z : ∀ j, j < 122 → (f j).toInt = 0 := fun j h => by rw [e j h]; decide
  have key : ∀ {lo hi : Int} {a b : Nat}, b ≤ 122 → lo ≤ 0 → 0 ≤ hi → RG lo hi a b f := fun hb q1 q2 j h1 h2 => by rw [z j (by omega)]; exact ⟨q1, q2⟩
  refine ⟨?_, fun j h1 h2 => by rw [z j h2]; decide⟩
  unfold WR
  exact ⟨key (by decide) (by decide) (by decide), key (by decide) (by decide) (by decide), key (by decide) (by decide) (by decide), key (by decide) (by decide) (by decide), key (by decide) (by decide) (by decide), key (by decide) (by decide) (by decide), key (by decide) (by decide) (by decide), key (by decide) (by decide) (by decide), key (by decide) (by decide) (by decide), key (by decide) (by decide) (by decide), key (by decide) (by decide) (by decide), key (by decide) (by decide) (by decide)⟩
theorem WI.zero {f : Nat → Int32} (e : ∀ j, j < 122 → f j = 0) : WI f := by
  refine ⟨FI.zero e, fun q => ?_⟩
  have z : ∀ j, j < 122 → (f j).toInt = 0 := fun j h => by rw [e j h]; decide
  rw [z 8 (by decide), z 4 (by decide), z 5 (by decide), z 7 (by decide)] at q
  omega
theorem cpy_zero {α : Type} (f g : Nat → α) (a b : Nat) : g = va_cpy f g a b 0 := by
  funext j
  unfold va_cpy
  rw [if_neg (by omega)]
theorem cpy_step {f g F : Nat → Int32} {a b n k : Nat} {v : Int32} (hF : F = va_cpy f g a b n) (hk : k = b + n) (hv : v = f (a + n)) : upd F k v = va_cpy f g a b (n + 1) := by
  subst hF hk hv
  funext j
  unfold upd va_cpy
  by_cases h : j = b + n
  · rw [if_pos h, if_pos (by omega)]
    congr 1
    omega
  · rw [if_neg h]
    by_cases h2 : b ≤ j ∧ j < b + n
    · rw [if_pos h2, if_pos (by omega)]
    · rw [if_neg h2, if_neg (by omega)]
theorem WI.cpy {f g : Nat → Int32} {a n : Nat} (h : WI (fun j => f (a + j))) (hn : 122 ≤ n) : WI (va_cpy f g a 0 n) := h.ext (fun j hj => by
  unfold va_cpy
  rw [if_pos (by omega)]
  congr 1)
theorem IM.cpy {f g : Nat → Int32} {k : Nat} (h : WI f) (hg : IM g) : IM (va_cpy f g 0 (122 * k) 122) := by
  intro i hi
  by_cases e : i = k
  · subst e
    refine h.ext (fun j hj => ?_)
    unfold va_cpy
    rw [if_pos (by omega)]
    congr 1
    omega
  · refine (hg i hi).ext (fun j hj => ?_)
    unfold va_cpy
    rw [if_neg (by omega)]


/-! numbers: what a row's machine number is, in whole numbers -/
theorem kk_lt {a b : Int32} {A B : Int} (ha : a.toInt = A) (hb : b.toInt = B) (h : a < b) : A < B := by subst ha hb; exact tt_lt h
theorem kk_nlt {a b : Int32} {A B : Int} (ha : a.toInt = A) (hb : b.toInt = B) (h : ¬ a < b) : B ≤ A := by subst ha hb; exact tt_nlt h
theorem kk_le {a b : Int32} {A B : Int} (ha : a.toInt = A) (hb : b.toInt = B) (h : a ≤ b) : A ≤ B := by subst ha hb; exact tt_le h
theorem kk_nle {a b : Int32} {A B : Int} (ha : a.toInt = A) (hb : b.toInt = B) (h : ¬ a ≤ b) : B < A := by subst ha hb; exact tt_nle h
theorem kk_eq {a b : Int32} {A B : Int} (ha : a.toInt = A) (hb : b.toInt = B) (h : a = b) : A = B := by subst ha hb; exact tt_eq h
theorem kk_ne {a b : Int32} {A B : Int} (ha : a.toInt = A) (hb : b.toInt = B) (h : ¬ a = b) : A ≠ B := by subst ha hb; exact tt_ne h
theorem jj_lt {a b : Int64} {A B : Int} (ha : a.toInt = A) (hb : b.toInt = B) (h : lg_cmp a b < 0) : A < B := by subst ha hb; exact c_lt h
theorem jj_nlt {a b : Int64} {A B : Int} (ha : a.toInt = A) (hb : b.toInt = B) (h : ¬ lg_cmp a b < 0) : B ≤ A := by subst ha hb; exact c_nlt h
theorem jj_le {a b : Int64} {A B : Int} (ha : a.toInt = A) (hb : b.toInt = B) (h : lg_cmp a b ≤ 0) : A ≤ B := by subst ha hb; exact c_le h
theorem jj_nle {a b : Int64} {A B : Int} (ha : a.toInt = A) (hb : b.toInt = B) (h : ¬ lg_cmp a b ≤ 0) : B < A := by subst ha hb; exact c_nle h
theorem jj_eq {a b : Int64} {A B : Int} (ha : a.toInt = A) (hb : b.toInt = B) (h : lg_cmp a b = 0) : A = B := by subst ha hb; exact c_eq h
theorem jj_ne {a b : Int64} {A B : Int} (ha : a.toInt = A) (hb : b.toInt = B) (h : ¬ lg_cmp a b = 0) : A ≠ B := by subst ha hb; exact c_ne h
theorem jj_gt {a b : Int64} {A B : Int} (ha : a.toInt = A) (hb : b.toInt = B) (h : 0 < lg_cmp a b) : B < A := by subst ha hb; exact c_gt h
theorem jj_ngt {a b : Int64} {A B : Int} (ha : a.toInt = A) (hb : b.toInt = B) (h : ¬ 0 < lg_cmp a b) : A ≤ B := by subst ha hb; exact c_ngt h
theorem jj_ge {a b : Int64} {A B : Int} (ha : a.toInt = A) (hb : b.toInt = B) (h : 0 ≤ lg_cmp a b) : B ≤ A := by subst ha hb; exact c_ge h
theorem jj_nge {a b : Int64} {A B : Int} (ha : a.toInt = A) (hb : b.toInt = B) (h : ¬ 0 ≤ lg_cmp a b) : A < B := by subst ha hb; exact c_nge h
theorem i32_bd (x : Int32) : -2147483648 ≤ x.toInt ∧ x.toInt ≤ 2147483647 := by
  have h1 := Int32.toInt_lt x
  have h2 := Int32.le_toInt x
  omega
theorem i64_bd (x : Int64) : -9223372036854775808 ≤ x.toInt ∧ x.toInt ≤ 9223372036854775807 := by
  have h1 := Int64.toInt_lt x
  have h2 := Int64.le_toInt x
  omega
theorem i32_ext {a b : Int32} (h : a.toInt = b.toInt) : a = b := Int32.toInt_inj.mp h
theorem nz_i {y : Int32} (h : y.toInt ≠ 0) : ¬ y = 0 := fun q => h (by subst q; decide)
theorem nz_j {y : Int64} (h : y.toInt ≠ 0) : ¬ y = 0 := fun q => h (by subst q; decide)
theorem nn_i {y : Int32} (h : 0 ≤ y.toInt) : ¬ y < 0 := fun q => by
  have h1 := kk_lt rfl (by decide : (0 : Int32).toInt = 0) q
  omega
theorem cl_le {a b : Int32} {A B : Int} {n : Nat} (ha : a.toInt = A) (hb : b.toInt = B) (h : 0 ≤ A ∧ 0 ≤ B ∧ A + B ≤ (n : Int)) : a.toNatClampNeg + b.toNatClampNeg ≤ n := by
  have h1 : a.toNatClampNeg = a.toInt.toNat := rfl
  have h2 : b.toNatClampNeg = b.toInt.toNat := rfl
  rw [h1, h2, ha, hb]
  omega
theorem nar_z {v : Int32} (h : 0 ≤ v.toInt ∧ v.toInt ≤ 1) : narrow .boolean (.int v) = .int v := by
  have h0 : v = 0 ∨ v = 1 := by
    rcases (by omega : v.toInt = 0 ∨ v.toInt = 1) with q | q
    · exact Or.inl (i32_ext (q.trans (by decide)))
    · exact Or.inr (i32_ext (q.trans (by decide)))
  rcases h0 with rfl | rfl <;> decide
theorem ar_add {a b x : Int32} {A B : Int} (ha : a.toInt = A) (hb : b.toInt = B) (e : x = a + b) (h1 : -2147483648 ≤ A + B) (h2 : A + B ≤ 2147483647) : x.toInt = A + B := by
  subst ha hb
  exact tt_add e h1 h2
theorem ar_sub {a b x : Int32} {A B : Int} (ha : a.toInt = A) (hb : b.toInt = B) (e : x = a - b) (h1 : -2147483648 ≤ A - B) (h2 : A - B ≤ 2147483647) : x.toInt = A - B := by
  subst ha hb
  exact tt_sub e h1 h2
theorem ar_mul {a b x : Int32} {A B : Int} (ha : a.toInt = A) (hb : b.toInt = B) (e : x = a * b) (h1 : -2147483648 ≤ A * B) (h2 : A * B ≤ 2147483647) : x.toInt = A * B := by
  subst ha
  exact tt_mul e hb h1 h2
theorem ar_neg {a x : Int32} {A : Int} (ha : a.toInt = A) (e : x = -a) (h : -2147483648 < A) : x.toInt = -A := by
  have h2 := i32_bd a
  subst ha e
  rw [Int32.toInt_neg]
  exact Int.bmod_eq_of_le (by omega) (by omega)
theorem ar_mulv {a b x : Int32} {A B : Nat} (e : x = a * b) (ha : -(A : Int) ≤ a.toInt ∧ a.toInt ≤ (A : Int)) (hb : -(B : Int) ≤ b.toInt ∧ b.toInt ≤ (B : Int)) (h : A * B ≤ 2147483647) : -((A * B : Nat) : Int) ≤ x.toInt ∧ x.toInt ≤ ((A * B : Nat) : Int) := by
  have h1 : a.toInt.natAbs ≤ A := by omega
  have h2 : b.toInt.natAbs ≤ B := by omega
  have h3 : (a.toInt * b.toInt).natAbs ≤ A * B := by rw [Int.natAbs_mul]; exact Nat.mul_le_mul h1 h2
  have h4 : x.toInt = a.toInt * b.toInt := by
    subst e
    rw [Int32.toInt_mul]
    exact Int.bmod_eq_of_le (by omega) (by omega)
  rw [h4]
  omega
theorem ar_mulp {a b x : Int32} {A B : Nat} (e : x = a * b) (ha : 0 ≤ a.toInt ∧ a.toInt ≤ (A : Int)) (hb : 0 ≤ b.toInt ∧ b.toInt ≤ (B : Int)) (h : A * B ≤ 2147483647) : 0 ≤ x.toInt ∧ x.toInt ≤ ((A * B : Nat) : Int) := by
  have h1 := ar_mulv (A := A) (B := B) e (by omega) (by omega) h
  have h3 : (a.toInt * b.toInt).natAbs ≤ A * B := by rw [Int.natAbs_mul]; exact Nat.mul_le_mul (by omega) (by omega)
  have h4 : x.toInt = a.toInt * b.toInt := by
    subst e
    rw [Int32.toInt_mul]
    exact Int.bmod_eq_of_le (by omega) (by omega)
  have h5 := Int.mul_nonneg ha.1 hb.1
  omega
theorem i32_nn {x : Int32} (h : 0 ≤ x.toInt) : x.toInt = (x.toBitVec.toNat : Int) := by
  have h1 : x.toInt = x.toBitVec.toInt := rfl
  rw [h1, BitVec.toInt_eq_toNat_cond] at h ⊢
  split
  · rfl
  · rename_i q
    rw [if_neg q] at h
    have := x.toBitVec.isLt
    omega
theorem i32_of {x : Int32} {n : Nat} (hn : n < 2 ^ 31) (h : x.toBitVec.toNat = n) : x.toInt = (n : Int) := by
  have h1 : x.toInt = x.toBitVec.toInt := rfl
  rw [h1, BitVec.toInt_eq_toNat_cond, h, if_pos (by omega)]
theorem ar_andR {a b x : Int32} {B : Int} (hb : b.toInt = B) (e : x = a &&& b) (h : 0 ≤ B) : 0 ≤ x.toInt ∧ x.toInt ≤ B := by
  subst hb e
  have h1 := i32_nn h
  have h2 : (a &&& b).toBitVec.toNat = a.toBitVec.toNat &&& b.toBitVec.toNat := by rw [Int32.toBitVec_and, BitVec.toNat_and]
  have h3 : a.toBitVec.toNat &&& b.toBitVec.toNat ≤ b.toBitVec.toNat := Nat.and_le_right
  have h4 := i32_bd b
  have h5 := i32_of (x := a &&& b) (by omega) h2
  omega
theorem ar_andL {a b x : Int32} {A : Int} (ha : a.toInt = A) (e : x = a &&& b) (h : 0 ≤ A) : 0 ≤ x.toInt ∧ x.toInt ≤ A := by
  subst ha e
  have h1 := i32_nn h
  have h2 : (a &&& b).toBitVec.toNat = a.toBitVec.toNat &&& b.toBitVec.toNat := by rw [Int32.toBitVec_and, BitVec.toNat_and]
  have h3 : a.toBitVec.toNat &&& b.toBitVec.toNat ≤ a.toBitVec.toNat := Nat.and_le_left
  have h4 := i32_bd a
  have h5 := i32_of (x := a &&& b) (by omega) h2
  omega
theorem ar_or {n : Nat} {M : Int} {a b x : Int32} {A B : Int} (ha : a.toInt = A) (hb : b.toInt = B) (e : x = a ||| b) (hn : n < 31) (hM : M = 2 ^ n) (h1 : 0 ≤ A ∧ A < M) (h2 : 0 ≤ B ∧ B < M) : 0 ≤ x.toInt ∧ x.toInt < M := by
  subst ha hb e
  have g1 := i32_nn h1.1
  have g2 := i32_nn h2.1
  have hMn : M = ((2 ^ n : Nat) : Int) := by rw [hM]; simp
  have q1 : a.toBitVec.toNat < 2 ^ n := by omega
  have q2 : b.toBitVec.toNat < 2 ^ n := by omega
  have q3 : (a ||| b).toBitVec.toNat = a.toBitVec.toNat ||| b.toBitVec.toNat := by rw [Int32.toBitVec_or, BitVec.toNat_or]
  have q4 := Nat.or_lt_two_pow q1 q2
  have q5 : 2 ^ n < 2 ^ 31 := Nat.pow_lt_pow_right (by decide) hn
  have q6 := i32_of (x := a ||| b) (by omega) q3
  omega
theorem ar_shl1 {b x : Int32} (e : x = 1 <<< (b &&& 31)) (h0 : 0 ≤ b.toInt) (h8 : b.toInt ≤ 8) : (b.toInt = 0 ∧ x.toInt = 1) ∨ (b.toInt = 1 ∧ x.toInt = 2) ∨ (b.toInt = 2 ∧ x.toInt = 4) ∨ (b.toInt = 3 ∧ x.toInt = 8) ∨ (b.toInt = 4 ∧ x.toInt = 16) ∨ (b.toInt = 5 ∧ x.toInt = 32) ∨ (b.toInt = 6 ∧ x.toInt = 64) ∨ (b.toInt = 7 ∧ x.toInt = 128) ∨ (b.toInt = 8 ∧ x.toInt = 256) := by
  have hb : b = 0 ∨ b = 1 ∨ b = 2 ∨ b = 3 ∨ b = 4 ∨ b = 5 ∨ b = 6 ∨ b = 7 ∨ b = 8 := by
    rcases (by omega : b.toInt = 0 ∨ b.toInt = 1 ∨ b.toInt = 2 ∨ b.toInt = 3 ∨ b.toInt = 4 ∨ b.toInt = 5 ∨ b.toInt = 6 ∨ b.toInt = 7 ∨ b.toInt = 8) with q | q | q | q | q | q | q | q | q
    · exact Or.inl (i32_ext (q.trans (by decide)))
    · exact Or.inr (Or.inl (i32_ext (q.trans (by decide))))
    · exact Or.inr (Or.inr (Or.inl (i32_ext (q.trans (by decide)))))
    · exact Or.inr (Or.inr (Or.inr (Or.inl (i32_ext (q.trans (by decide))))))
    · exact Or.inr (Or.inr (Or.inr (Or.inr (Or.inl (i32_ext (q.trans (by decide)))))))
    · exact Or.inr (Or.inr (Or.inr (Or.inr (Or.inr (Or.inl (i32_ext (q.trans (by decide))))))))
    · exact Or.inr (Or.inr (Or.inr (Or.inr (Or.inr (Or.inr (Or.inl (i32_ext (q.trans (by decide)))))))))
    · exact Or.inr (Or.inr (Or.inr (Or.inr (Or.inr (Or.inr (Or.inr (Or.inl (i32_ext (q.trans (by decide))))))))))
    · exact Or.inr (Or.inr (Or.inr (Or.inr (Or.inr (Or.inr (Or.inr (Or.inr (i32_ext (q.trans (by decide))))))))))
  subst e
  rcases hb with rfl | rfl | rfl | rfl | rfl | rfl | rfl | rfl | rfl <;> decide
theorem ar_shl8 {a x : Int32} (e : x = a <<< (8 &&& 31)) (h0 : 0 ≤ a.toInt) (h8 : a.toInt ≤ 8) : x.toInt = 256 * a.toInt := by
  have hb : a = 0 ∨ a = 1 ∨ a = 2 ∨ a = 3 ∨ a = 4 ∨ a = 5 ∨ a = 6 ∨ a = 7 ∨ a = 8 := by
    rcases (by omega : a.toInt = 0 ∨ a.toInt = 1 ∨ a.toInt = 2 ∨ a.toInt = 3 ∨ a.toInt = 4 ∨ a.toInt = 5 ∨ a.toInt = 6 ∨ a.toInt = 7 ∨ a.toInt = 8) with q | q | q | q | q | q | q | q | q
    · exact Or.inl (i32_ext (q.trans (by decide)))
    · exact Or.inr (Or.inl (i32_ext (q.trans (by decide))))
    · exact Or.inr (Or.inr (Or.inl (i32_ext (q.trans (by decide)))))
    · exact Or.inr (Or.inr (Or.inr (Or.inl (i32_ext (q.trans (by decide))))))
    · exact Or.inr (Or.inr (Or.inr (Or.inr (Or.inl (i32_ext (q.trans (by decide)))))))
    · exact Or.inr (Or.inr (Or.inr (Or.inr (Or.inr (Or.inl (i32_ext (q.trans (by decide))))))))
    · exact Or.inr (Or.inr (Or.inr (Or.inr (Or.inr (Or.inr (Or.inl (i32_ext (q.trans (by decide)))))))))
    · exact Or.inr (Or.inr (Or.inr (Or.inr (Or.inr (Or.inr (Or.inr (Or.inl (i32_ext (q.trans (by decide))))))))))
    · exact Or.inr (Or.inr (Or.inr (Or.inr (Or.inr (Or.inr (Or.inr (Or.inr (i32_ext (q.trans (by decide))))))))))
  subst e
  rcases hb with rfl | rfl | rfl | rfl | rfl | rfl | rfl | rfl | rfl <;> decide
theorem ar_div {a b x : Int32} {A B : Int} (ha : a.toInt = A) (hb : b.toInt = B) (e : x = a / b) (h1 : 0 ≤ A) (h2 : 0 < B) : x.toInt = A / B := by
  have g := i32_bd a
  subst ha hb e
  rw [Int32.toInt_div, Int.tdiv_eq_ediv_of_nonneg h1]
  have q1 : 0 ≤ a.toInt / b.toInt := Int.ediv_nonneg h1 (by omega)
  have q2 : a.toInt / b.toInt ≤ a.toInt := Int.ediv_le_self _ h1
  exact Int.bmod_eq_of_le (by omega) (by omega)
theorem ar_rem {a b x : Int32} {A B : Int} (ha : a.toInt = A) (hb : b.toInt = B) (e : x = a - a / b * b) (h1 : 0 ≤ A) (h2 : 0 < B) : x.toInt = A % B := by
  have g := i32_bd a
  have g2 := i32_bd b
  have d := ar_div ha hb rfl h1 h2
  subst ha hb e
  have q1 : 0 ≤ a.toInt % b.toInt := Int.emod_nonneg _ (by omega)
  have q2 : a.toInt % b.toInt < b.toInt := Int.emod_lt_of_pos _ h2
  have q3 : b.toInt * (a.toInt / b.toInt) + a.toInt % b.toInt = a.toInt := Int.mul_ediv_add_emod _ _
  have q4 : (a / b * b).toInt = a.toInt / b.toInt * b.toInt := by
    have q5 : 0 ≤ a.toInt / b.toInt * b.toInt := Int.mul_nonneg (Int.ediv_nonneg h1 (by omega)) (by omega)
    have q6 : a.toInt / b.toInt * b.toInt = b.toInt * (a.toInt / b.toInt) := Int.mul_comm _ _
    rw [Int32.toInt_mul, d]
    exact Int.bmod_eq_of_le (by omega) (by omega)
  have q6 : a.toInt / b.toInt * b.toInt = b.toInt * (a.toInt / b.toInt) := Int.mul_comm _ _
  have := ar_sub rfl q4 (rfl : a - a / b * b = a - a / b * b) (by omega) (by omega)
  omega
theorem tt_l2i {x : Int64} {y : Int32} (e : x.toInt32 = y) (h1 : -2147483648 ≤ x.toInt) (h2 : x.toInt ≤ 2147483647) : y.toInt = x.toInt := by
  subst e
  rw [Int64.toInt_toInt32]
  exact Int.bmod_eq_of_le (by omega) (by omega)
/-- every element of a row lies within bounds -/
def AR (lo hi : Int) (f : Nat → Int32) : Prop := ∀ j : Nat, lo ≤ (f j).toInt ∧ (f j).toInt ≤ hi
theorem AR.upd {lo hi : Int} {f : Nat → Int32} {k : Nat} {v : Int32} (h : AR lo hi f) (hv : lo ≤ v.toInt ∧ v.toInt ≤ hi) : AR lo hi (upd f k v) := by
  intro j
  show lo ≤ (if j = k then v else f j).toInt ∧ (if j = k then v else f j).toInt ≤ hi
  split
  · exact hv
  · exact h j
theorem AR.cpy {lo hi : Int} {f g : Nat → Int32} {a b n : Nat} (hf : AR lo hi f) (hg : AR lo hi g) : AR lo hi (va_cpy f g a b n) := by
  intro j
  unfold va_cpy
  split
  · exact hf _
  · exact hg _
/-- two ways that meet again -/
theorem joinW {p : Program} {l : Launch} {e : Env} {R : Room} {s : State} {m : MethodId} {args : Array Value} {below : List Frame} {meth : Method} {c : Code} {cells slots : Nat} {Q : State → Prop} {σ : Type} {pc : Nat} {H : Heap} {locs : List Loc} {g : JFrame} (st : σ → List Value) (I : σ → Heap → List Loc → Array Slot → Prop)
    (k1 : ∀ (x : σ) (H' : Heap) (locs' : List Loc) (ls' : Array Slot), I x H' locs' ls' → W p l e R s m args below meth c H' locs' cells slots Q (F0 m pc ls' (st x)))
    (k2 : (∀ (x : σ) (H' : Heap) (locs' : List Loc) (ls' : Array Slot), I x H' locs' ls' → W p l e R s m args below meth c H' locs' cells slots Q (F0 m pc ls' (st x))) → W p l e R s m args below meth c H locs cells slots Q g) : W p l e R s m args below meth c H locs cells slots Q g := k2 k1
section CP2
variable {p : Program} {l : Launch} {e : Env} {R : Room} {s : State} {m : MethodId} {args : Array Value} {below : List Frame} {meth : Method} {c : Code} {H H0 : Heap} {locs : List Loc} {cells slots : Nat} {Q : State → Prop}
variable {D : va_G} {cA : Nat → ClassId} {cc cc' : ByteArray} {nL mL pc index n mc ms : Nat} {own host : String} {y : MethodName} {ret : Option FieldType} {rm : Room} {ws wsC wr : va_W} {As rest st0 : List Value} {b ci : Nat} {fs : List Value} {T : u_T} {N : Nat} {ls : Array Slot} {A0 : Nat → Prop}
theorem cpSl {post : Int64 → Prop} (X : CallFix p m c cc nL s args TB own) (hKN : KN D cA s) (hP : va_P D vwCl wsC H)
    (hM : Met l y (Cond.code y cc' mL ret :: TB) rm (PP D cA wsC As) (vp_Sl post) 0 0 (fun _ => False))
    (g : GoodIn TB (va_wsS own index y (Cond.code y cc' mL ret :: TB))) (hd : Hd y n) (hrm : Rm rm R mL 0 0) (hf : cells ≤ R.cells ∧ slots ≤ R.slots)
    (hn : As.length = n) (hsz : ls.size = nL) (hst : st0 = As.reverse ++ rest) (hW : (rest.map fun v => v.category).sum ≤ 8)
    (hdg : decode cc pc = .ok (.invokestatic index, 3))
    (kk : ∀ r : Int64, post r → W p l e R s m args below meth c H locs cells slots Q (F0 m (pc + 3) ls (.long r :: rest))) : W p l e R s m args below meth c H locs cells slots Q (F0 m pc ls st0) :=
  runSl (va_runS (As := As) (rest := rest) X hM (va_cwS n X.2.2.2.2 g rfl hrm.1 hrm.2.1 hd ⟨hrm.2.2.1, hrm.2.2.2⟩) (ppS hKN hP) rfl hn hsz hst (lv_room hW) hdg hf) kk
/-- a call that may write and answers a reference that is known -/
theorem cmRr {S : Type} {post : S → Prop} {w' : S → va_W} {q0 : Nat} {a : Array Value} {isC isR : List Nat} (hP : va_P D vwCl ws H) (hD : va_D A0 ws) (hS : va_S A0 H0 H locs) (hA : ∀ q, H0.size ≤ q → A0 q)
    (hC : isC.map (fun i => ws[i]?) = wsC.map some) (hR : isR.map (fun i => ws[i]?) = wr.map some) (hnd : va_nd isR = true) (hdis : ∀ i ∈ isR, i ∉ isC)
    (hr : va_Run p l e R s m args below meth c H locs cells slots mc ms (F0 m pc ls st0) rest (va_Qr post (fun u a t => a = q0 ∧ va_P D vwCl (w' u) t.heap ∧ va_D (va_A wsC H.size) (w' u)) (va_A wsC H.size) a) (va_A wsC H.size))
    (kk : ∀ (u : S) (H1 : Heap) (locs1 : List Loc), post u → va_P D vwCl (wr ++ w' u) H1 → va_D A0 (wr ++ w' u) → va_S A0 H0 H1 locs1 → W p l e R s m args below meth c H1 locs1 (cells + mc) (slots + ms) Q (F0 m (pc + 3) ls (.ref q0 :: rest))) : W p l e R s m args below meth c H locs cells slots Q (F0 m pc ls st0) := by
  have hFc := va_free (wc := wsC) hD hS hA isC hC
  refine va_callr hr hS (fun q _ h => hFc q h) hFc (fun u ra t H1 locs ht hvm hw hB hz1 hk1 hS => ?_)
  obtain ⟨rfl, hP1, hD1⟩ := hB
  rw [ht] at hP1
  obtain ⟨hP, hD⟩ := va_join (wr := wr) (w1 := w' u) hP hD isC isR hC hR hnd hdis hk1 hFc hP1 hD1
  exact kk u H1 locs hw hP hD hS
theorem cmVr {S : Type} {post : S → Prop} {w' : S → va_W} {q0 : Nat} (X : CallFix p m c cc nL s args TB own) (hKN : KN D cA s) (hP : va_P D vwCl ws H) (hD : va_D A0 ws) (hS : va_S A0 H0 H locs) (hA : ∀ q, H0.size ≤ q → A0 q)
    (isC isR : List Nat) (hC : isC.map (fun i => ws[i]?) = wsC.map some) (hR : isR.map (fun i => ws[i]?) = wr.map some) (hndC : va_nd isC = true) (hnd : va_nd isR = true) (hdis : ∀ i ∈ isR, i ∉ isC)
    (hM : Met l y (Cond.code y cc' mL ret :: TB) rm (PM D cA H.size wsC (.ref b :: As)) (va_Qr post (fun u a t => a = q0 ∧ va_P D vwCl (w' u) t.heap ∧ va_D (va_A wsC H.size) (w' u)) (va_A wsC H.size)) mc ms (va_A wsC H.size))
    (g : GoodIn TB (wsV own index y.cls y (Cond.code y cc' mL ret :: TB))) (hd : Hd y n) (hrm : Rm rm R mL mc ms) (hf : cells + mc ≤ R.cells ∧ slots + ms ≤ R.slots)
    (he : wsC[0]? = some (b, .inr (ci, fs))) (hc : vwCl[ci]? = some (y.cls, T, N)) (hn : As.length = n) (hsz : ls.size = nL) (hst : st0 = As.reverse ++ .ref b :: rest) (hW : (rest.map fun v => v.category).sum ≤ 8)
    (hdg : decode cc pc = .ok (.invokevirtual index, 3))
    (kk : ∀ (u : S) (H1 : Heap) (locs1 : List Loc), post u → va_P D vwCl (wr ++ w' u) H1 → va_D A0 (wr ++ w' u) → va_S A0 H0 H1 locs1 → W p l e R s m args below meth c H1 locs1 (cells + mc) (slots + ms) Q (F0 m (pc + 3) ls (.ref q0 :: rest))) : W p l e R s m args below meth c H locs cells slots Q (F0 m pc ls st0) :=
  cmRr hP hD hS hA hC hR hnd hdis (va_runV (As := As) (rest := rest) X hM (cwV n X.2.2.2.2 g rfl hrm.1 hrm.2.1 ⟨rfl, hd⟩ ⟨hrm.2.2.1, hrm.2.2.2⟩) (pmV hKN (subP hP hC) (hD.sub isC hndC hC) he hc) rfl hn hsz hst (lv_room hW) hdg hf) kk
end CP2
theorem nar_c {v : Int32} (h : 0 ≤ v.toInt ∧ v.toInt ≤ 65535) : narrow .char (.int v) = .int v := by
  obtain ⟨n, hn, rfl⟩ := nI_of (nn_i h.1)
  have h1 := nI_toInt hn
  exact (pk_charN (by omega)).1
theorem ar_i2c {a x : Int32} (e : (a.toUInt32 % 65536).toInt32 = x) : 0 ≤ x.toInt ∧ x.toInt ≤ 65535 := by
  subst e
  rw [pk_char]
  have h : a.toBitVec.toNat % 65536 < 65536 := Nat.mod_lt _ (by decide)
  rw [nI_toInt (by omega)]
  omega
theorem ar_or8 {a b x : Int32} {A B : Int} (ha : a.toInt = A) (hb : b.toInt = B) (e : x = a ||| b) (hm : A % 256 = 0) (h1 : 0 ≤ A ∧ A ≤ 4096) (h2 : 0 ≤ B ∧ B < 256) : x.toInt = A + B := by
  subst ha hb e
  have g1 := i32_nn h1.1
  have g2 := i32_nn h2.1
  have q3 : (a ||| b).toBitVec.toNat = a.toBitVec.toNat ||| b.toBitVec.toNat := by rw [Int32.toBitVec_or, BitVec.toNat_or]
  have q4 : a.toBitVec.toNat = 2 ^ 8 * (a.toBitVec.toNat / 256) := by omega
  have q5 : 2 ^ 8 * (a.toBitVec.toNat / 256) + b.toBitVec.toNat = 2 ^ 8 * (a.toBitVec.toNat / 256) ||| b.toBitVec.toNat := Nat.two_pow_add_eq_or_of_lt (by omega) _
  have q6 : (a ||| b).toBitVec.toNat = a.toBitVec.toNat + b.toBitVec.toNat := by rw [q3]; rw [← q4] at q5; omega
  have q7 := i32_of (x := a ||| b) (by omega) q6
  omega
theorem upd_ne {f : Nat → Int32} {k j : Nat} {v : Int32} (h : j ≠ k) : upd f k v j = f j := by
  unfold upd
  rw [if_neg h]
theorem ar_orb {a b x : Int32} {A B : Int} (ha : a.toInt = A) (hb : b.toInt = B) (e : x = a ||| b) (h1 : 0 ≤ A ∧ A ≤ 4096) (h2 : 0 ≤ B ∧ B < 256) : 0 ≤ x.toInt ∧ x.toInt / 256 = A / 256 := by
  subst ha hb e
  have g1 := i32_nn h1.1
  have g2 := i32_nn h2.1
  have q3 : (a ||| b).toBitVec.toNat = a.toBitVec.toNat ||| b.toBitVec.toNat := by rw [Int32.toBitVec_or, BitVec.toNat_or]
  have q4 : (a.toBitVec.toNat ||| b.toBitVec.toNat) / 2 ^ 8 = a.toBitVec.toNat / 2 ^ 8 ||| b.toBitVec.toNat / 2 ^ 8 := Nat.or_div_two_pow
  have q5 : b.toBitVec.toNat / 2 ^ 8 = 0 := Nat.div_eq_of_lt (by omega)
  rw [q5, Nat.or_zero] at q4
  have q6 : (a.toBitVec.toNat ||| b.toBitVec.toNat) < 2 ^ 31 := by omega
  have q7 := i32_of (x := a ||| b) q6 q3
  omega
section OFWF
variable {l : Launch}
theorem Met.ofWF {y : MethodName} {ws ws' : List Cond} {rm : Room} {Pc : Array Value → State → Prop} {Qc : Array Value → State → Outcome → State → Prop} {mc ms : Nat} {free : Addr → Prop} {cc : ByteArray} {maxL : Nat} {ret : Option FieldType}
    (hy : plainFor y = true) (hw : ws = Cond.code y cc maxL ret :: ws')
    (body : ∀ p e s m args below meth c s₁, BodyLoose p l y (headSpec ws rm) cc maxL ret e s m args below meth c s₁ → c.maxLocals = maxL → Pc args s →
      W p l e (headSpec ws rm).room s m args below meth c s.heap [] 0 0 (MQ below Qc args s mc ms free) (entryFrame m args maxL)) : Met l y ws rm Pc Qc mc ms free := by
  refine MetFree.of_bodySF (code := cc) (maxLocals := maxL) (ret := ret) hy ?_ ?_
  · intro args s m h hn
    obtain ⟨meth, c, h1, h2, h3, h4, h5, h6, -, -⟩ := Cond.code_spec hn (atoms_spec (ws := ws) h _ (by rw [hw]; exact List.mem_cons_self))
    exact ⟨meth, c, h1, h2, h3, h4, h5, h6⟩
  · intro p e s m args below meth c s₁ B hml hP _
    have hh0 : s₁.heap = s.heap := by rw [B.state]; rfl
    obtain ⟨t, a1, o, b1, b2, b3⟩ := body p e s m args below meth c s₁ B hml hP s₁ hh0 (Stand.of_body B)
    exact ⟨t, o, a1, b1, b2, ⟨b3.1, b3.2⟩⟩
end OFWF


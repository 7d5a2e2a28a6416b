theorem kstr {args : Array Value} {s : State} {A : Nat → Prop} {tm : Term} {N : Nat} {f : Nat → Int32} (hN : N < 2 ^ 31) (hex : (Cond.exactly tm "java/lang/String").before args s = true) (hco : (Cond.eq (.field tm "java/lang/String" "coder" "B") (.int 0)).before args s = true)
    (har : (Cond.arrayOf (.field tm "java/lang/String" "value" "[B") .byte).before args s = true) (hle : (Cond.eq (.length (.field tm "java/lang/String" "value" "[B")) (.int (Int32.ofNat N))).before args s = true)
    (hel : ∀ j : Nat, j < N → (Cond.eq (.elem (.field tm "java/lang/String" "value" "[B") (.int (Int32.ofNat j))) (.int (f j))).before args s = true) (hA : ∀ a : Nat, a < s.heap.size → ¬ A a) :
    ∃ q : Nat × Nat, tm.eval args s none [] s = some (.ref q.1) ∧ va_O "java/lang/String" q.1 A s s.heap ∧ va_OF "java/lang/String" "coder" "B" (.int 0) q.1 A s s.heap ∧ va_OF "java/lang/String" "value" "[B" (.ref q.2) q.1 A s s.heap ∧ va_T .byte q.2 N (fun j => .int (f j)) A s s.heap := by
  obtain ⟨a, c, cA, kA, q1, q2, q3, q4, q5, q6, -⟩ := Cond.exactly_spec (args := args) (first := s) (o := none) (s := s) (idx := []) (t := tm) (cls := "java/lang/String") hex
  obtain ⟨t, ht, hT⟩ := va_Tof (f := fun j => .int (f j)) (A := A) hN har (va_eqt hle) (fun j hj => va_eqt (hel j hj)) hA
  exact ⟨(a, t), q1, ⟨cA, q3, q5, by rw [q6]; exact q2, hA a (Array.getElem?_eq_some_iff.mp q3).1⟩, vk_OFof q1 (va_eqt hco) hA, vk_OFof q1 ht hA, hT⟩
theorem ktab {args : Array Value} {s : State} {A : Nat → Prop} {C n : String} {N : Nat} {f : Nat → Int32} (hN : N < 2 ^ 31) (hl : (Cond.laysStatic C n "[I").before args s = true) (hini : (Cond.initialized C).before args s = true) (har : (Cond.arrayOf (.static C n "[I") .int).before args s = true)
    (hle : (Cond.eq (.length (.static C n "[I")) (.int (Int32.ofNat N))).before args s = true) (hel : ∀ j : Nat, j < N → (Cond.eq (.elem (.static C n "[I") (.int (Int32.ofNat j))) (.int (f j))).before args s = true) (hA : ∀ a : Nat, a < s.heap.size → ¬ A a) :
    ∃ t : Nat, va_Z C n "[I" (.ref t) A s s.heap ∧ va_T .int t N (fun j => .int (f j)) A s s.heap := by
  obtain ⟨t, ht, hT⟩ := va_Tof (f := fun j => .int (f j)) (A := A) hN har (va_eqt hle) (fun j hj => va_eqt (hel j hj)) hA
  exact ⟨t, va_Zof hl hini ht hA, hT⟩
theorem AR.const {lo hi : Int} {v : Int32} (h : lo ≤ v.toInt ∧ v.toInt ≤ hi) : AR lo hi (fun _ => v) := fun _ => h
theorem rel_upd {f g : Nat → Int32} {k : Nat} {v : Int32} (h : ∀ j : Nat, j < 4 → f j = g j) : ∀ j : Nat, j < 4 → upd f k v j = upd g k v j := by
  intro j hj
  unfold upd
  split
  · rfl
  · exact h j hj


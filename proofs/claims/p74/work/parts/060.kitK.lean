/-! constants that the heap holds: the reader's tables, the texts -/
abbrev KT : Type := (Nat → Nat) × (Nat → Nat) × (Nat → Nat)
def amo (j : Nat) : Int32 := ([3, 3, 3, 2, 1] : List Int32).getD j 0
def lws (j : Nat) : Int32 := ([1, 1, 0, 0, 1, 0, 1, 0, 0, 0, 0, 0, 0, 0, 0] : List Int32).getD j 0
def hgs (j : Nat) : Int32 := ([20, 20, 10, 1, 30, 9, 30, 99, 99, 999, 999, 0, 20, 0, 0] : List Int32).getD j 0
theorem getD_all {P : Int32 → Prop} (l : List Int32) (h0 : P 0) (h : ∀ x ∈ l, P x) (j : Nat) : P (l.getD j 0) := by
  rw [List.getD_eq_getElem?_getD]
  cases hj : l[j]? with
  | none => exact h0
  | some x => exact h x (List.mem_of_getElem? hj)
theorem amo_ar : AR (0) 3 amo := fun j => getD_all (P := fun x => (0 : Int) ≤ x.toInt ∧ x.toInt ≤ 3) _ (by decide) (by decide) j
theorem lws_ar : AR (0) 1 lws := fun j => getD_all (P := fun x => (0 : Int) ≤ x.toInt ∧ x.toInt ≤ 1) _ (by decide) (by decide) j
theorem hgs_ar : AR (0) 999 hgs := fun j => getD_all (P := fun x => (0 : Int) ≤ x.toInt ∧ x.toInt ≤ 999) _ (by decide) (by decide) j
def SOWN (i : Nat) : String := if i < 15 then RX6 else RX12
def SIDX (i : Nat) : Nat := ([171, 173, 175, 177, 179, 146, 180, 181, 183, 185, 187, 189, 191, 193, 195, 186, 188, 190, 169, 171, 173, 175, 155, 161, 163, 165, 152, 153, 183, 184] : List Nat).getD i 0
def STX (i : Nat) : String := (["gorge", "man", "clause", "wind", "pot", "takes", "odds", "on", "grip", "wits", "says", "gives", "from", "to", "far", "gorge", "far", "odds", "man", "clause", "wind", "pot", "on", "grip", "wits", "says", "takes", "gives", "from", "to"] : List String).getD i ""
def LENl : List Nat := [5, 3, 6, 4, 3, 5, 4, 2, 4, 4, 4, 5, 4, 2, 3, 5, 3, 4, 3, 6, 4, 3, 2, 4, 4, 4, 5, 5, 4, 2]
def LEN (i : Nat) : Nat := LENl.getD i 0
def BYTl : List (List Int32) := [[103, 111, 114, 103, 101], [109, 97, 110], [99, 108, 97, 117, 115, 101], [119, 105, 110, 100], [112, 111, 116], [116, 97, 107, 101, 115], [111, 100, 100, 115], [111, 110], [103, 114, 105, 112], [119, 105, 116, 115], [115, 97, 121, 115], [103, 105, 118, 101, 115], [102, 114, 111, 109], [116, 111], [102, 97, 114], [103, 111, 114, 103, 101], [102, 97, 114], [111, 100, 100, 115], [109, 97, 110], [99, 108, 97, 117, 115, 101], [119, 105, 110, 100], [112, 111, 116], [111, 110], [103, 114, 105, 112], [119, 105, 116, 115], [115, 97, 121, 115], [116, 97, 107, 101, 115], [103, 105, 118, 101, 115], [102, 114, 111, 109], [116, 111]]
def BYT (i j : Nat) : Int32 := (BYTl.getD i []).getD j 0
theorem LEN_le (i : Nat) : (LEN i : Int) ≤ 8 := by
  have h : ∀ (l : List Nat), (∀ x ∈ l, x ≤ 8) → ∀ j, l.getD j 0 ≤ 8 := by
    intro l hl j
    rw [List.getD_eq_getElem?_getD]
    cases hj : l[j]? with
    | none => exact Nat.zero_le _
    | some x => exact hl x (List.mem_of_getElem? hj)
  have := h LENl (by decide) i
  unfold LEN
  omega
def KS (κ : KT) (A : Nat → Prop) (U : State) (H : Heap) : Prop := ∀ i : Nat, i < 30 → va_O "java/lang/String" (κ.2.1 i) A U H ∧ va_OF "java/lang/String" "coder" "B" (.int 0) (κ.2.1 i) A U H ∧ va_OF "java/lang/String" "value" "[B" (.ref (κ.2.2 i)) (κ.2.1 i) A U H ∧ va_T .byte (κ.2.2 i) (LEN i) (fun j => .int (BYT i j)) A U H
def KRr (κ : KT) (U : State) : Prop := ∀ i : Nat, i < 30 → vk_R (SOWN i) (SIDX i) (STX i) (κ.2.1 i) U
def KC (κ : KT) (A : Nat → Prop) (U : State) (H : Heap) : Prop :=
  va_Z "java/lang/String" "COMPACT_STRINGS" "Z" (.int 1) A U H ∧ va_Zq "jdk/internal/util/Preconditions" "SIOOBE_FORMATTER" "Ljava/util/function/BiFunction;" A U H ∧
  (va_Z RX6 "AMOUNTS" "[I" (.ref (κ.1 0)) A U H ∧ va_T .int (κ.1 0) 5 (fun j => .int (amo j)) A U H) ∧
  (va_Z RX6 "LOWS" "[I" (.ref (κ.1 1)) A U H ∧ va_T .int (κ.1 1) 15 (fun j => .int (lws j)) A U H) ∧
  (va_Z RX6 "HIGHS" "[I" (.ref (κ.1 2)) A U H ∧ va_T .int (κ.1 2) 15 (fun j => .int (hgs j)) A U H) ∧ KS κ A U H ∧ KRr κ U
theorem KC.cs {κ : KT} {A : Nat → Prop} {U : State} {H : Heap} (h : KC κ A U H) : va_Z "java/lang/String" "COMPACT_STRINGS" "Z" (.int 1) A U H := h.1
theorem KC.fm {κ : KT} {A : Nat → Prop} {U : State} {H : Heap} (h : KC κ A U H) : va_Zq "jdk/internal/util/Preconditions" "SIOOBE_FORMATTER" "Ljava/util/function/BiFunction;" A U H := h.2.1
theorem KC.z0 {κ : KT} {A : Nat → Prop} {U : State} {H : Heap} (h : KC κ A U H) : va_Z RX6 "AMOUNTS" "[I" (.ref (κ.1 0)) A U H := h.2.2.1.1
theorem KC.t0 {κ : KT} {A : Nat → Prop} {U : State} {H : Heap} (h : KC κ A U H) : va_T .int (κ.1 0) 5 (fun j => .int (amo j)) A U H := h.2.2.1.2
theorem KC.z1 {κ : KT} {A : Nat → Prop} {U : State} {H : Heap} (h : KC κ A U H) : va_Z RX6 "LOWS" "[I" (.ref (κ.1 1)) A U H := h.2.2.2.1.1
theorem KC.t1 {κ : KT} {A : Nat → Prop} {U : State} {H : Heap} (h : KC κ A U H) : va_T .int (κ.1 1) 15 (fun j => .int (lws j)) A U H := h.2.2.2.1.2
theorem KC.z2 {κ : KT} {A : Nat → Prop} {U : State} {H : Heap} (h : KC κ A U H) : va_Z RX6 "HIGHS" "[I" (.ref (κ.1 2)) A U H := h.2.2.2.2.1.1
theorem KC.t2 {κ : KT} {A : Nat → Prop} {U : State} {H : Heap} (h : KC κ A U H) : va_T .int (κ.1 2) 15 (fun j => .int (hgs j)) A U H := h.2.2.2.2.1.2
theorem KC.S {κ : KT} {A : Nat → Prop} {U : State} {H : Heap} (h : KC κ A U H) : KS κ A U H := h.2.2.2.2.2.1
theorem KC.R {κ : KT} {A : Nat → Prop} {U : State} {H : Heap} (h : KC κ A U H) : KRr κ U := h.2.2.2.2.2.2
theorem KC.kept {κ : KT} {A : Nat → Prop} {U : State} {H H1 : Heap} (h : KC κ A U H) (hq : ∀ a : Nat, a < H.size → ¬ A a → H1[a]? = H[a]?) : KC κ A U H1 :=
  ⟨h.cs.kept hq, h.fm.elim (fun q => Or.inl (q.kept hq)) (fun q => Or.inr (q.elim fun t z => ⟨t, z.kept hq⟩)), ⟨h.z0.kept hq, h.t0.kept hq⟩, ⟨h.z1.kept hq, h.t1.kept hq⟩, ⟨h.z2.kept hq, h.t2.kept hq⟩, fun i hi => ⟨(h.S i hi).1.kept hq, (h.S i hi).2.1.kept hq, (h.S i hi).2.2.1.kept hq, (h.S i hi).2.2.2.kept hq⟩, h.R⟩
theorem KC.narrow {κ : KT} {A B : Nat → Prop} {U : State} {H : Heap} (h : KC κ A U H) (hAB : ∀ q, B q → A q) : KC κ B U H :=
  ⟨h.cs.narrow hAB, h.fm.elim (fun q => Or.inl (q.narrow hAB)) (fun q => Or.inr (q.elim fun t z => ⟨t, z.narrow hAB⟩)), ⟨h.z0.narrow hAB, h.t0.narrow hAB⟩, ⟨h.z1.narrow hAB, h.t1.narrow hAB⟩, ⟨h.z2.narrow hAB, h.t2.narrow hAB⟩, fun i hi => ⟨(h.S i hi).1.narrow hAB, (h.S i hi).2.1.narrow hAB, (h.S i hi).2.2.1.narrow hAB, (h.S i hi).2.2.2.narrow hAB⟩, h.R⟩
theorem KC.mv {κ : KT} {A : Nat → Prop} {u U : State} {H : Heap} (hv : u.vm.Alike U.vm) (hR : KRr κ U) (h : KC κ A u H) : KC κ A U H :=
  ⟨va_Z.moved hv h.cs, h.fm.elim (fun q => Or.inl (va_Z.moved hv q)) (fun q => Or.inr (q.elim fun t z => ⟨t, va_Z.moved hv z⟩)), ⟨va_Z.moved hv h.z0, va_T.moved hv h.t0⟩, ⟨va_Z.moved hv h.z1, va_T.moved hv h.t1⟩, ⟨va_Z.moved hv h.z2, va_T.moved hv h.t2⟩, fun i hi => ⟨va_O.moved hv (h.S i hi).1, va_OF.moved hv (h.S i hi).2.1, va_OF.moved hv (h.S i hi).2.2.1, va_T.moved hv (h.S i hi).2.2.2⟩, hR⟩
theorem KC.warm {κ : KT} {A : Nat → Prop} {s U : State} {H : Heap} (hW : s.WarmedH U.vm) (h : KC κ A s H) : KC κ A U H := KC.mv hW.alike (fun i hi => vk_R.warm hW (h.R i hi)) h
theorem KC.calling {κ : KT} {A : Nat → Prop} {U : State} {g : JFrame} {mk : MethodId} {a : Array Value} (h : KC κ A U U.heap) : KC κ A (U.calling g mk a) (U.calling g mk a).heap := KC.mv (u := U) (U := U.calling g mk a) (Vm.Alike.refl U.vm) (fun i hi => vk_R.same rfl (h.R i hi)) h
def PPK (κ : KT) (D : va_G) (cA : Nat → ClassId) (ws : va_W) (av : List Value) : Array Value → State → Prop := va_Pc av (fun U => va_P D vwCl ws U.heap ∧ KN D cA U ∧ KC κ (fun _ => False) U U.heap)
theorem PPK.blind {κ : KT} {D : va_G} {cA : Nat → ClassId} {ws : va_W} {av : List Value} : FrameBlind (PPK κ D cA ws av) := fun _ _ _ _ q => ⟨q.1, q.2.1, KN.calling q.2.2.1, KC.calling q.2.2.2⟩
def PMK (κ : KT) (D : va_G) (cA : Nat → ClassId) (sz : Nat) (ws : va_W) (av : List Value) : Array Value → State → Prop := va_Pc av (fun U => U.heap.size = sz ∧ va_P D vwCl ws U.heap ∧ KN D cA U ∧ va_D (fun _ => True) ws ∧ KC κ (va_A ws sz) U U.heap)
theorem PMK.blind {κ : KT} {D : va_G} {cA : Nat → ClassId} {sz : Nat} {ws : va_W} {av : List Value} : FrameBlind (PMK κ D cA sz ws av) := fun _ _ _ _ q => ⟨q.1, q.2.1, q.2.2.1, KN.calling q.2.2.2.1, q.2.2.2.2.1, KC.calling q.2.2.2.2.2⟩
/-- an answer that is a reference, nothing written -/
def vp_SrK (post : Nat → Prop) : Array Value → State → Outcome → State → Prop := fun _ st o t => ∃ r : Nat, o = .returned (some (.ref r)) ∧ post r ∧ t.heap = st.heap
theorem ar_shr0 {a x : Int32} (e : x = a >>> (0 &&& 31)) : x = a := by
  subst e
  have h : (0 : Int32) &&& 31 = 0 := by decide
  rw [h]
  exact Int32.shiftRight_zero
theorem ofN_len {i : Nat} {x : Int32} (e : x = Int32.ofNat (LEN i)) : x.toInt = (LEN i : Int) := by
  have h := LEN_le i
  subst e
  exact Int32.toInt_ofNat_of_lt (by omega)
section CPK
variable {p : Program} {l : Launch} {e : Env} {R : Room} {s : State} {m : MethodId} {args : Array Value} {below : List Frame} {meth : Method} {c : Code} {H H0 : Heap} {locs : List Loc} {cells slots : Nat} {Q : State → Prop}
variable {D : va_G} {cA : Nat → ClassId} {cc cc' : ByteArray} {nL mL pc index n mc ms : Nat} {own host : String} {y : MethodName} {ret : Option FieldType} {rm : Room} {ws wsC wr : va_W} {As rest st0 : List Value} {b ci : Nat} {fs : List Value} {T : u_T} {N : Nat} {ls : Array Slot} {A0 : Nat → Prop} {κ : KT}
theorem runSr {post : Nat → Prop} {a : Array Value} (hr : va_Run p l e R s m args below meth c H locs cells slots 0 0 (F0 m pc ls st0) rest (vp_SrK post a) (fun _ => False))
    (kk : ∀ r : Nat, post r → W p l e R s m args below meth c H locs cells slots Q (F0 m (pc + 3) ls (.ref r :: rest))) : W p l e R s m args below meth c H locs cells slots Q (F0 m pc ls st0) := by
  intro T hT X
  obtain ⟨v, st₀, t, T', L, h0, X', hL, e1, e2, ⟨r, hv, hp, hh⟩, st⟩ := hr T hT X
  cases hv
  obtain ⟨t2, a1, b1⟩ := kk r hp T' (by rw [e1, hh, h0]) (Stand.forget X' (fun q h => (hL q h).elim))
  exact ⟨t2, st t2 a1, b1⟩
theorem ppVK (hKN : KN D cA s) (hP : va_P D vwCl wsC H) (hKC : KC κ (fun _ => False) s H) (he : wsC[0]? = some (b, .inr (ci, fs))) (hc : vwCl[ci]? = some (y.cls, T, N)) : PreV s H y.cls b (PPK κ D cA wsC (.ref b :: As)) As := ⟨PPK.blind, va_recv hKN.1 hP hc he, fun _ hU hW => ⟨rfl, by rw [hU]; exact hP, KN.warm hW hKN, by rw [hU]; exact KC.warm hW hKC⟩⟩
theorem pmVK (hKN : KN D cA s) (hP : va_P D vwCl wsC H) (hD : va_D A0 wsC) (hKC : KC κ (va_A wsC H.size) s H) (he : wsC[0]? = some (b, .inr (ci, fs))) (hc : vwCl[ci]? = some (y.cls, T, N)) : PreV s H y.cls b (PMK κ D cA H.size wsC (.ref b :: As)) As := ⟨PMK.blind, va_recv hKN.1 hP hc he, fun _ hU hW => ⟨rfl, by rw [hU], by rw [hU]; exact hP, KN.warm hW hKN, hD.weaken (fun _ _ _ _ => trivial), by rw [hU]; exact KC.warm hW hKC⟩⟩
theorem pmSK (hKN : KN D cA s) (hP : va_P D vwCl wsC H) (hD : va_D A0 wsC) (hKC : KC κ (va_A wsC H.size) s H) : PreS s H (PMK κ D cA H.size wsC As) As := ⟨PMK.blind, fun _ hU hW => ⟨rfl, by rw [hU], by rw [hU]; exact hP, KN.warm hW hKN, hD.weaken (fun _ _ _ _ => trivial), by rw [hU]; exact KC.warm hW hKC⟩⟩
theorem ppTK {i : Nat} (hi : i < 30) (hKN : KN D cA s) (hP : va_P D vwCl wsC H) (hKC : KC κ (fun _ => False) s H) : PreV s H "java/lang/String" (κ.2.1 i) (PPK κ D cA wsC (.ref (κ.2.1 i) :: As)) As := ⟨PPK.blind, (hKC.S i hi).1.elim fun cell q => ⟨cell, q.1, q.2.1, q.2.2.1⟩, fun _ hU hW => ⟨rfl, by rw [hU]; exact hP, KN.warm hW hKN, by rw [hU]; exact KC.warm hW hKC⟩⟩
theorem pmTK {i : Nat} (hi : i < 30) (hKN : KN D cA s) (hP : va_P D vwCl wsC H) (hD : va_D A0 wsC) (hKC : KC κ (va_A wsC H.size) s H) : PreV s H "java/lang/String" (κ.2.1 i) (PMK κ D cA H.size wsC (.ref (κ.2.1 i) :: As)) As := ⟨PMK.blind, (hKC.S i hi).1.elim fun cell q => ⟨cell, q.1, q.2.1, q.2.2.1⟩, fun _ hU hW => ⟨rfl, by rw [hU], by rw [hU]; exact hP, KN.warm hW hKN, hD.weaken (fun _ _ _ _ => trivial), by rw [hU]; exact KC.warm hW hKC⟩⟩
theorem cpViK {post : Int32 → Prop} (X : CallFix p m c cc nL s args TB own) (hKN : KN D cA s) (hKC : KC κ (fun _ => False) s H) (hP : va_P D vwCl wsC H)
    (hM : Met l y (Cond.code y cc' mL ret :: TB) rm (PPK κ D cA wsC (.ref b :: As)) (vp_Si post) 0 0 (fun _ => False))
    (g : GoodIn TB (wsV own index y.cls y (Cond.code y cc' mL ret :: TB))) (hd : Hd y n) (hrm : Rm rm R mL 0 0) (hf : cells ≤ R.cells ∧ slots ≤ R.slots)
    (he : wsC[0]? = some (b, .inr (ci, fs))) (hc : vwCl[ci]? = some (y.cls, T, N)) (hn : As.length = n) (hsz : ls.size = nL) (hst : st0 = As.reverse ++ .ref b :: rest) (hW : (rest.map fun v => v.category).sum ≤ 8)
    (hdg : decode cc pc = .ok (.invokevirtual index, 3))
    (kk : ∀ r : Int32, post r → W p l e R s m args below meth c H locs cells slots Q (F0 m (pc + 3) ls (.int r :: rest))) : W p l e R s m args below meth c H locs cells slots Q (F0 m pc ls st0) :=
  runSi (va_runV (As := As) (rest := rest) X hM (cwV n X.2.2.2.2 g rfl hrm.1 hrm.2.1 ⟨rfl, hd⟩ ⟨hrm.2.2.1, hrm.2.2.2⟩) (ppVK hKN hP hKC he hc) rfl hn hsz hst (lv_room hW) hdg hf) kk
theorem cpVrK {post : Nat → Prop} (X : CallFix p m c cc nL s args TB own) (hKN : KN D cA s) (hKC : KC κ (fun _ => False) s H) (hP : va_P D vwCl wsC H)
    (hM : Met l y (Cond.code y cc' mL ret :: TB) rm (PPK κ D cA wsC (.ref b :: As)) (vp_SrK post) 0 0 (fun _ => False))
    (g : GoodIn TB (wsV own index y.cls y (Cond.code y cc' mL ret :: TB))) (hd : Hd y n) (hrm : Rm rm R mL 0 0) (hf : cells ≤ R.cells ∧ slots ≤ R.slots)
    (he : wsC[0]? = some (b, .inr (ci, fs))) (hc : vwCl[ci]? = some (y.cls, T, N)) (hn : As.length = n) (hsz : ls.size = nL) (hst : st0 = As.reverse ++ .ref b :: rest) (hW : (rest.map fun v => v.category).sum ≤ 8)
    (hdg : decode cc pc = .ok (.invokevirtual index, 3))
    (kk : ∀ r : Nat, post r → W p l e R s m args below meth c H locs cells slots Q (F0 m (pc + 3) ls (.ref r :: rest))) : W p l e R s m args below meth c H locs cells slots Q (F0 m pc ls st0) :=
  runSr (va_runV (As := As) (rest := rest) X hM (cwV n X.2.2.2.2 g rfl hrm.1 hrm.2.1 ⟨rfl, hd⟩ ⟨hrm.2.2.1, hrm.2.2.2⟩) (ppVK hKN hP hKC he hc) rfl hn hsz hst (lv_room hW) hdg hf) kk
/-- calls on a text -/
theorem cpTiK {post : Int32 → Prop} {i : Nat} (hi : i < 30) (X : CallFix p m c cc nL s args TB own) (hKN : KN D cA s) (hKC : KC κ (fun _ => False) s H) (hP : va_P D vwCl wsC H) (hy : y.cls = "java/lang/String")
    (hM : Met l y (Cond.code y cc' mL ret :: TB) rm (PPK κ D cA wsC (.ref (κ.2.1 i) :: As)) (vp_Si post) 0 0 (fun _ => False))
    (g : GoodIn TB (wsV own index y.cls y (Cond.code y cc' mL ret :: TB))) (hd : Hd y n) (hrm : Rm rm R mL 0 0) (hf : cells ≤ R.cells ∧ slots ≤ R.slots)
    (hn : As.length = n) (hsz : ls.size = nL) (hst : st0 = As.reverse ++ .ref (κ.2.1 i) :: rest) (hW : (rest.map fun v => v.category).sum ≤ 8)
    (hdg : decode cc pc = .ok (.invokevirtual index, 3))
    (kk : ∀ r : Int32, post r → W p l e R s m args below meth c H locs cells slots Q (F0 m (pc + 3) ls (.int r :: rest))) : W p l e R s m args below meth c H locs cells slots Q (F0 m pc ls st0) :=
  runSi (va_runV (As := As) (rest := rest) X hM (cwV n X.2.2.2.2 g rfl hrm.1 hrm.2.1 ⟨rfl, hd⟩ ⟨hrm.2.2.1, hrm.2.2.2⟩) (hy ▸ ppTK hi hKN hP hKC) rfl hn hsz hst (lv_room hW) hdg hf) kk
theorem cmTiK {S : Type} {post : Int32 → S → Prop} {w' : S → va_W} {i : Nat} (hi : i < 30) (X : CallFix p m c cc nL s args TB own) (hKN : KN D cA s) (hKC : KC κ A0 s H0) (hy : y.cls = "java/lang/String") (hP : va_P D vwCl ws H) (hD : va_D A0 ws) (hS : va_S A0 H0 H locs) (hA : ∀ q, H0.size ≤ q → A0 q)
    (isC isR : List Nat) (hC : isC.map (fun i => ws[i]?) = wsC.map some) (hR : isR.map (fun i => ws[i]?) = wr.map some) (hndC : va_nd isC = true) (hnd : va_nd isR = true) (hdis : ∀ i ∈ isR, i ∉ isC)
    (hM : Met l y (Cond.code y cc' mL ret :: TB) rm (PMK κ D cA H.size wsC (.ref (κ.2.1 i) :: As)) (va_Qi post (fun u t => va_P D vwCl (w' u) t.heap ∧ va_D (va_A wsC H.size) (w' u)) (va_A wsC H.size)) mc ms (va_A wsC H.size))
    (g : GoodIn TB (wsV own index y.cls y (Cond.code y cc' mL ret :: TB))) (hd : Hd y n) (hrm : Rm rm R mL mc ms) (hf : cells + mc ≤ R.cells ∧ slots + ms ≤ R.slots)
    (hn : As.length = n) (hsz : ls.size = nL) (hst : st0 = As.reverse ++ .ref (κ.2.1 i) :: rest) (hW : (rest.map fun v => v.category).sum ≤ 8)
    (hdg : decode cc pc = .ok (.invokevirtual index, 3))
    (kk : ∀ (r : Int32) (u : S) (H1 : Heap) (locs1 : List Loc), post r u → va_P D vwCl (wr ++ w' u) H1 → va_D A0 (wr ++ w' u) → va_S A0 H0 H1 locs1 → W p l e R s m args below meth c H1 locs1 (cells + mc) (slots + ms) Q (F0 m (pc + 3) ls (.int r :: rest))) : W p l e R s m args below meth c H locs cells slots Q (F0 m pc ls st0) :=
  cmRi hP hD hS hA hC hR hnd hdis (va_runV (As := As) (rest := rest) X hM (cwV n X.2.2.2.2 g rfl hrm.1 hrm.2.1 ⟨rfl, hd⟩ ⟨hrm.2.2.1, hrm.2.2.2⟩) (hy ▸ pmTK hi hKN (subP hP hC) (hD.sub isC hndC hC) ((hKC.kept hS.2.1).narrow (va_free (wc := wsC) hD hS hA isC hC))) rfl hn hsz hst (lv_room hW) hdg hf) kk
theorem cmViK {S : Type} {post : Int32 → S → Prop} {w' : S → va_W} (X : CallFix p m c cc nL s args TB own) (hKN : KN D cA s) (hKC : KC κ A0 s H0) (hP : va_P D vwCl ws H) (hD : va_D A0 ws) (hS : va_S A0 H0 H locs) (hA : ∀ q, H0.size ≤ q → A0 q)
    (isC isR : List Nat) (hC : isC.map (fun i => ws[i]?) = wsC.map some) (hR : isR.map (fun i => ws[i]?) = wr.map some) (hndC : va_nd isC = true) (hnd : va_nd isR = true) (hdis : ∀ i ∈ isR, i ∉ isC)
    (hM : Met l y (Cond.code y cc' mL ret :: TB) rm (PMK κ D cA H.size wsC (.ref b :: As)) (va_Qi post (fun u t => va_P D vwCl (w' u) t.heap ∧ va_D (va_A wsC H.size) (w' u)) (va_A wsC H.size)) mc ms (va_A wsC H.size))
    (g : GoodIn TB (wsV own index y.cls y (Cond.code y cc' mL ret :: TB))) (hd : Hd y n) (hrm : Rm rm R mL mc ms) (hf : cells + mc ≤ R.cells ∧ slots + ms ≤ R.slots)
    (he : wsC[0]? = some (b, .inr (ci, fs))) (hc : vwCl[ci]? = some (y.cls, T, N)) (hn : As.length = n) (hsz : ls.size = nL) (hst : st0 = As.reverse ++ .ref b :: rest) (hW : (rest.map fun v => v.category).sum ≤ 8)
    (hdg : decode cc pc = .ok (.invokevirtual index, 3))
    (kk : ∀ (r : Int32) (u : S) (H1 : Heap) (locs1 : List Loc), post r u → va_P D vwCl (wr ++ w' u) H1 → va_D A0 (wr ++ w' u) → va_S A0 H0 H1 locs1 → W p l e R s m args below meth c H1 locs1 (cells + mc) (slots + ms) Q (F0 m (pc + 3) ls (.int r :: rest))) : W p l e R s m args below meth c H locs cells slots Q (F0 m pc ls st0) :=
  cmRi hP hD hS hA hC hR hnd hdis (va_runV (As := As) (rest := rest) X hM (cwV n X.2.2.2.2 g rfl hrm.1 hrm.2.1 ⟨rfl, hd⟩ ⟨hrm.2.2.1, hrm.2.2.2⟩) (pmVK hKN (subP hP hC) (hD.sub isC hndC hC) ((hKC.kept hS.2.1).narrow (va_free (wc := wsC) hD hS hA isC hC)) he hc) rfl hn hsz hst (lv_room hW) hdg hf) kk
theorem cmVvK {S : Type} {post : S → Prop} {w' : S → va_W} (X : CallFix p m c cc nL s args TB own) (hKN : KN D cA s) (hKC : KC κ A0 s H0) (hP : va_P D vwCl ws H) (hD : va_D A0 ws) (hS : va_S A0 H0 H locs) (hA : ∀ q, H0.size ≤ q → A0 q)
    (isC isR : List Nat) (hC : isC.map (fun i => ws[i]?) = wsC.map some) (hR : isR.map (fun i => ws[i]?) = wr.map some) (hndC : va_nd isC = true) (hnd : va_nd isR = true) (hdis : ∀ i ∈ isR, i ∉ isC)
    (hM : Met l y (Cond.code y cc' mL ret :: TB) rm (PMK κ D cA H.size wsC (.ref b :: As)) (va_Qv post (fun u t => va_P D vwCl (w' u) t.heap ∧ va_D (va_A wsC H.size) (w' u)) (va_A wsC H.size)) mc ms (va_A wsC H.size))
    (g : GoodIn TB (wsV own index y.cls y (Cond.code y cc' mL ret :: TB))) (hd : Hd y n) (hrm : Rm rm R mL mc ms) (hf : cells + mc ≤ R.cells ∧ slots + ms ≤ R.slots)
    (he : wsC[0]? = some (b, .inr (ci, fs))) (hc : vwCl[ci]? = some (y.cls, T, N)) (hn : As.length = n) (hsz : ls.size = nL) (hst : st0 = As.reverse ++ .ref b :: rest) (hW : (rest.map fun v => v.category).sum ≤ 8)
    (hdg : decode cc pc = .ok (.invokevirtual index, 3))
    (kk : ∀ (u : S) (H1 : Heap) (locs1 : List Loc), post u → va_P D vwCl (wr ++ w' u) H1 → va_D A0 (wr ++ w' u) → va_S A0 H0 H1 locs1 → W p l e R s m args below meth c H1 locs1 (cells + mc) (slots + ms) Q (F0 m (pc + 3) ls rest)) : W p l e R s m args below meth c H locs cells slots Q (F0 m pc ls st0) :=
  cmRv hP hD hS hA hC hR hnd hdis (va_runV (As := As) (rest := rest) X hM (cwV n X.2.2.2.2 g rfl hrm.1 hrm.2.1 ⟨rfl, hd⟩ ⟨hrm.2.2.1, hrm.2.2.2⟩) (pmVK hKN (subP hP hC) (hD.sub isC hndC hC) ((hKC.kept hS.2.1).narrow (va_free (wc := wsC) hD hS hA isC hC)) he hc) rfl hn hsz hst (lv_room hW) hdg hf) kk
theorem cmSvK {S : Type} {post : S → Prop} {w' : S → va_W} (X : CallFix p m c cc nL s args TB own) (hKN : KN D cA s) (hKC : KC κ A0 s H0) (hP : va_P D vwCl ws H) (hD : va_D A0 ws) (hS : va_S A0 H0 H locs) (hA : ∀ q, H0.size ≤ q → A0 q)
    (isC isR : List Nat) (hC : isC.map (fun i => ws[i]?) = wsC.map some) (hR : isR.map (fun i => ws[i]?) = wr.map some) (hndC : va_nd isC = true) (hnd : va_nd isR = true) (hdis : ∀ i ∈ isR, i ∉ isC)
    (hM : Met l y (Cond.code y cc' mL ret :: TB) rm (PMK κ D cA H.size wsC As) (va_Qv post (fun u t => va_P D vwCl (w' u) t.heap ∧ va_D (va_A wsC H.size) (w' u)) (va_A wsC H.size)) mc ms (va_A wsC H.size))
    (g : GoodIn TB (va_wsS own index y (Cond.code y cc' mL ret :: TB))) (hd : Hd y n) (hrm : Rm rm R mL mc ms) (hf : cells + mc ≤ R.cells ∧ slots + ms ≤ R.slots)
    (hn : As.length = n) (hsz : ls.size = nL) (hst : st0 = As.reverse ++ rest) (hW : (rest.map fun v => v.category).sum ≤ 8)
    (hdg : decode cc pc = .ok (.invokestatic index, 3))
    (kk : ∀ (u : S) (H1 : Heap) (locs1 : List Loc), post u → va_P D vwCl (wr ++ w' u) H1 → va_D A0 (wr ++ w' u) → va_S A0 H0 H1 locs1 → W p l e R s m args below meth c H1 locs1 (cells + mc) (slots + ms) Q (F0 m (pc + 3) ls rest)) : W p l e R s m args below meth c H locs cells slots Q (F0 m pc ls st0) :=
  cmRv hP hD hS hA hC hR hnd hdis (va_runS (As := As) (rest := rest) X hM (va_cwS n X.2.2.2.2 g rfl hrm.1 hrm.2.1 hd ⟨hrm.2.2.1, hrm.2.2.2⟩) (pmSK hKN (subP hP hC) (hD.sub isC hndC hC) ((hKC.kept hS.2.1).narrow (va_free (wc := wsC) hD hS hA isC hC))) rfl hn hsz hst (lv_room hW) hdg hf) kk
theorem cmSiK {S : Type} {post : Int32 → S → Prop} {w' : S → va_W} (X : CallFix p m c cc nL s args TB own) (hKN : KN D cA s) (hKC : KC κ A0 s H0) (hP : va_P D vwCl ws H) (hD : va_D A0 ws) (hS : va_S A0 H0 H locs) (hA : ∀ q, H0.size ≤ q → A0 q)
    (isC isR : List Nat) (hC : isC.map (fun i => ws[i]?) = wsC.map some) (hR : isR.map (fun i => ws[i]?) = wr.map some) (hndC : va_nd isC = true) (hnd : va_nd isR = true) (hdis : ∀ i ∈ isR, i ∉ isC)
    (hM : Met l y (Cond.code y cc' mL ret :: TB) rm (PMK κ D cA H.size wsC As) (va_Qi post (fun u t => va_P D vwCl (w' u) t.heap ∧ va_D (va_A wsC H.size) (w' u)) (va_A wsC H.size)) mc ms (va_A wsC H.size))
    (g : GoodIn TB (va_wsS own index y (Cond.code y cc' mL ret :: TB))) (hd : Hd y n) (hrm : Rm rm R mL mc ms) (hf : cells + mc ≤ R.cells ∧ slots + ms ≤ R.slots)
    (hn : As.length = n) (hsz : ls.size = nL) (hst : st0 = As.reverse ++ rest) (hW : (rest.map fun v => v.category).sum ≤ 8)
    (hdg : decode cc pc = .ok (.invokestatic index, 3))
    (kk : ∀ (r : Int32) (u : S) (H1 : Heap) (locs1 : List Loc), post r u → va_P D vwCl (wr ++ w' u) H1 → va_D A0 (wr ++ w' u) → va_S A0 H0 H1 locs1 → W p l e R s m args below meth c H1 locs1 (cells + mc) (slots + ms) Q (F0 m (pc + 3) ls (.int r :: rest))) : W p l e R s m args below meth c H locs cells slots Q (F0 m pc ls st0) :=
  cmRi hP hD hS hA hC hR hnd hdis (va_runS (As := As) (rest := rest) X hM (va_cwS n X.2.2.2.2 g rfl hrm.1 hrm.2.1 hd ⟨hrm.2.2.1, hrm.2.2.2⟩) (pmSK hKN (subP hP hC) (hD.sub isC hndC hC) ((hKC.kept hS.2.1).narrow (va_free (wc := wsC) hD hS hA isC hC))) rfl hn hsz hst (lv_room hW) hdg hf) kk
end CPK


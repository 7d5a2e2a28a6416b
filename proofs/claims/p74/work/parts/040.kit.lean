/-! what the contracts are made of: worlds, words, calls -/
theorem tt_lt {a b : Int32} (h : a < b) : a.toInt < b.toInt := Int32.lt_iff_toInt_lt.mp h
theorem tt_nlt {a b : Int32} (h : ¬ a < b) : b.toInt ≤ a.toInt := Int.not_lt.mp (fun q => h (Int32.lt_iff_toInt_lt.mpr q))
theorem tt_le {a b : Int32} (h : a ≤ b) : a.toInt ≤ b.toInt := Int32.le_iff_toInt_le.mp h
theorem tt_nle {a b : Int32} (h : ¬ a ≤ b) : b.toInt < a.toInt := Int.not_le.mp (fun q => h (Int32.le_iff_toInt_le.mpr q))
theorem tt_eq {a b : Int32} (h : a = b) : a.toInt = b.toInt := congrArg _ h
theorem tt_ne {a b : Int32} (h : ¬ a = b) : a.toInt ≠ b.toInt := fun q => h (Int32.toInt_inj.mp q)
/-- what comes back of a call that writes: addresses, numbers, contents of rows -/
abbrev SU : Type := (Nat → Nat) × (Nat → Int32) × (Nat → Nat → Int32) × (Nat → Nat → Int64)
def selN (l : List Nat) (k : Nat) : Nat := l.getD k 0
def selI (l : List Int32) (k : Nat) : Int32 := l.getD k 0
def selF (l : List (Nat → Int32)) (k : Nat) : Nat → Int32 := l.getD k (fun _ => 0)
def selJ (l : List (Nat → Int64)) (k : Nat) : Nat → Int64 := l.getD k (fun _ => 0)
def selO (l : List Nat) (k : Nat) : Option Nat := l[k]?
abbrev rmd (d c sl : Nat) : Room := { frames := d, cells := c, slots := sl, locals := 64 * d }
abbrev tyL (cA : Nat → ClassId) : List (ClassId × FieldType) := [(cA 0, .byte), (cA 1, .int), (cA 2, .long), (cA 3, .boolean), (cA 4, .object "WristTreaty$Image")]
def NW (U : State) : Prop := ∀ q ∈ nestT, va_Nw (.methodLinkNest q.1 q.2.1 q.2.2.1 q.2.2.2) U
theorem NW.warm {s U : State} (hW : s.WarmedH U.vm) (h : NW s) : NW U := fun q hq => va_Nw.warmM hW (h q hq)
theorem NW.same {u U : State} (h : u.vm = U.vm) (hN : NW u) : NW U := fun q hq => va_Nw.same rfl h (hN q hq)
def KN (D : va_G) (cA : Nat → ClassId) (U : State) : Prop := va_K D vwCl (tyL cA) U ∧ NW U ∧ va_AO "WristTreaty$Image" U
theorem KN.warm {D : va_G} {cA : Nat → ClassId} {s U : State} (hW : s.WarmedH U.vm) (h : KN D cA s) : KN D cA U := ⟨va_K.moved hW.alike h.1, NW.warm hW h.2.1, va_AO.moved hW.alike h.2.2⟩
theorem KN.calling {D : va_G} {cA : Nat → ClassId} {U : State} {g : JFrame} {mk : MethodId} {a : Array Value} (h : KN D cA U) : KN D cA (U.calling g mk a) := ⟨va_K.moved (u := U) (U := U.calling g mk a) (Vm.Alike.refl U.vm) h.1, NW.same rfl h.2.1, va_AO.moved (u := U) (U := U.calling g mk a) (Vm.Alike.refl U.vm) h.2.2⟩
def PP (D : va_G) (cA : Nat → ClassId) (ws : va_W) (av : List Value) : Array Value → State → Prop := va_Pc av (fun U => va_P D vwCl ws U.heap ∧ KN D cA U)
theorem PP.blind {D : va_G} {cA : Nat → ClassId} {ws : va_W} {av : List Value} : FrameBlind (PP D cA ws av) := fun _ _ _ _ q => ⟨q.1, q.2.1, KN.calling q.2.2⟩
def PM (D : va_G) (cA : Nat → ClassId) (sz : Nat) (ws : va_W) (av : List Value) : Array Value → State → Prop := va_Pc av (fun U => U.heap.size = sz ∧ va_P D vwCl ws U.heap ∧ KN D cA U ∧ va_D (fun _ => True) ws)
theorem PM.blind {D : va_G} {cA : Nat → ClassId} {sz : Nat} {ws : va_W} {av : List Value} : FrameBlind (PM D cA sz ws av) := fun _ _ _ _ q => ⟨q.1, q.2.1, q.2.2.1, KN.calling q.2.2.2.1, q.2.2.2.2⟩
theorem tb_good {w : Cond} (h : w ∈ TB) : (w.onTables && w.keeps) = true ∨ ∃ ty, w = .arrayClass ty := good_of_word (List.mem_filter.mp h).2
theorem tb_gi {ws : List Cond} (h : ∀ w ∈ ws, w ∈ TB) : GoodIn TB ws := fun w hw => ⟨h w hw, tb_good (h w hw)⟩
theorem tb_c {k : Cond} (h : k ∈ TB) : GoodIn TB (k :: TB) := tb_gi (fun w hw => by
  rcases List.mem_cons.mp hw with rfl | hw
  · exact h
  · exact hw)
theorem tb_V {own : String} {idx : Nat} {y : MethodName} {k : Cond} (h1 : Cond.methodLink own idx y ∈ TB) (h2 : Cond.instanceMethod y ∈ TB) (h3 : Cond.selects y.cls y y ∈ TB) (h4 : Cond.initialized y.cls ∈ TB) (h5 : k ∈ TB) : GoodIn TB (wsV own idx y.cls y (k :: TB)) := tb_gi (fun w hw => by
  unfold wsV at hw
  rcases List.mem_append.mp hw with hw | hw
  · simp only [List.mem_cons, List.not_mem_nil, or_false] at hw
    rcases hw with rfl | rfl | rfl | rfl <;> assumption
  · rcases List.mem_cons.mp hw with rfl | hw
    · exact h5
    · exact hw)
theorem tb_S {own : String} {idx : Nat} {y : MethodName} {k : Cond} (h1 : Cond.methodLink own idx y ∈ TB) (h2 : Cond.static y ∈ TB) (h4 : Cond.initialized y.cls ∈ TB) (h5 : k ∈ TB) : GoodIn TB (va_wsS own idx y (k :: TB)) := tb_gi (fun w hw => by
  unfold va_wsS at hw
  rcases List.mem_append.mp hw with hw | hw
  · simp only [List.mem_cons, List.not_mem_nil, or_false] at hw
    rcases hw with rfl | rfl | rfl <;> assumption
  · rcases List.mem_cons.mp hw with rfl | hw
    · exact h5
    · exact hw)
abbrev Hd (y : MethodName) (n : Nat) : Prop := y.cls ≠ "java/lang/invoke/MethodHandle" ∧ y.cls ≠ "java/lang/invoke/VarHandle" ∧ (parseMethodDescriptor y.desc).map (fun d => d.parameters.length) = some n
abbrev Rm (rm R : Room) (mL mc ms : Nat) : Prop := rm.cells = mc ∧ rm.slots = ms ∧ rm.frames + 1 ≤ R.frames ∧ 8 + (mL + 11) + rm.locals ≤ R.locals
section CP
variable {p : Program} {l : Launch} {e : Env} {R : Room} {s : State} {m : MethodId} {args : Array Value} {below : List Frame} {meth : Method} {c : Code} {H H0 : Heap} {locs : List Loc} {cells slots : Nat} {Q : State → Prop}
variable {D : va_G} {cA : Nat → ClassId} {cc cc' : ByteArray} {nL mL pc index n mc ms : Nat} {own host : String} {y : MethodName} {ret : Option FieldType} {rm : Room} {ws wsC wr : va_W} {As rest st0 : List Value} {b ci : Nat} {fs : List Value} {T : u_T} {N : Nat} {ls : Array Slot} {A0 : Nat → Prop}
/-- a call that only reads: what goes on -/
theorem runSi {post : Int32 → Prop} {a : Array Value} (hr : va_Run p l e R s m args below meth c H locs cells slots 0 0 (F0 m pc ls st0) rest (vp_Si post a) (fun _ => False))
    (kk : ∀ r : Int32, post r → W p l e R s m args below meth c H locs cells slots Q (F0 m (pc + 3) ls (.int r :: rest))) : W p l e R s m args below meth c H locs cells slots Q (F0 m pc ls st0) := by
  intro T hT X
  obtain ⟨v, st₀, t, T', L, h0, X', hL, e1, e2, ⟨r, hv, hp, hh⟩, st⟩ := hr T hT X
  cases hv
  obtain ⟨t2, a1, b1⟩ := kk r hp T' (by rw [e1, hh, h0]) (Stand.forget X' (fun q h => (hL q h).elim))
  exact ⟨t2, st t2 a1, b1⟩
theorem runSl {post : Int64 → Prop} {a : Array Value} (hr : va_Run p l e R s m args below meth c H locs cells slots 0 0 (F0 m pc ls st0) rest (vp_Sl post a) (fun _ => False))
    (kk : ∀ r : Int64, post r → W p l e R s m args below meth c H locs cells slots Q (F0 m (pc + 3) ls (.long r :: rest))) : W p l e R s m args below meth c H locs cells slots Q (F0 m pc ls st0) := by
  intro T hT X
  obtain ⟨v, st₀, t, T', L, h0, X', hL, e1, e2, ⟨r, hv, hp, hh⟩, st⟩ := hr T hT X
  cases hv
  obtain ⟨t2, a1, b1⟩ := kk r hp T' (by rw [e1, hh, h0]) (Stand.forget X' (fun q h => (hL q h).elim))
  exact ⟨t2, st t2 a1, b1⟩
theorem ppS (hKN : KN D cA s) (hP : va_P D vwCl wsC H) : PreS s H (PP D cA wsC As) As := ⟨PP.blind, fun _ hU hW => ⟨rfl, by rw [hU]; exact hP, KN.warm hW hKN⟩⟩
theorem ppV (hKN : KN D cA s) (hP : va_P D vwCl wsC H) (he : wsC[0]? = some (b, .inr (ci, fs))) (hc : vwCl[ci]? = some (y.cls, T, N)) : PreV s H y.cls b (PP D cA wsC (.ref b :: As)) As := ⟨PP.blind, va_recv hKN.1 hP hc he, fun _ hU hW => ⟨rfl, by rw [hU]; exact hP, KN.warm hW hKN⟩⟩
theorem pmS (hKN : KN D cA s) (hP : va_P D vwCl wsC H) (hD : va_D A0 wsC) : PreS s H (PM D cA H.size wsC As) As := ⟨PM.blind, fun _ hU hW => ⟨rfl, by rw [hU], by rw [hU]; exact hP, KN.warm hW hKN, hD.weaken (fun _ _ _ _ => trivial)⟩⟩
theorem pmV (hKN : KN D cA s) (hP : va_P D vwCl wsC H) (hD : va_D A0 wsC) (he : wsC[0]? = some (b, .inr (ci, fs))) (hc : vwCl[ci]? = some (y.cls, T, N)) : PreV s H y.cls b (PM D cA H.size wsC (.ref b :: As)) As := ⟨PM.blind, va_recv hKN.1 hP hc he, fun _ hU hW => ⟨rfl, by rw [hU], by rw [hU]; exact hP, KN.warm hW hKN, hD.weaken (fun _ _ _ _ => trivial)⟩⟩
theorem cpVi {post : Int32 → Prop} (X : CallFix p m c cc nL s args TB own) (hKN : KN D cA s) (hP : va_P D vwCl wsC H)
    (hM : Met l y (Cond.code y cc' mL ret :: TB) rm (PP D cA wsC (.ref b :: As)) (vp_Si post) 0 0 (fun _ => False))
    (g : GoodIn TB (wsV own index y.cls y (Cond.code y cc' mL ret :: TB))) (hd : Hd y n) (hrm : Rm rm R mL 0 0) (hf : cells ≤ R.cells ∧ slots ≤ R.slots)
    (he : wsC[0]? = some (b, .inr (ci, fs))) (hc : vwCl[ci]? = some (y.cls, T, N)) (hn : As.length = n) (hsz : ls.size = nL) (hst : st0 = As.reverse ++ .ref b :: rest) (hW : (rest.map fun v => v.category).sum ≤ 8)
    (hdg : decode cc pc = .ok (.invokevirtual index, 3))
    (kk : ∀ r : Int32, post r → W p l e R s m args below meth c H locs cells slots Q (F0 m (pc + 3) ls (.int r :: rest))) : W p l e R s m args below meth c H locs cells slots Q (F0 m pc ls st0) :=
  runSi (va_runV (As := As) (rest := rest) X hM (cwV n X.2.2.2.2 g rfl hrm.1 hrm.2.1 ⟨rfl, hd⟩ ⟨hrm.2.2.1, hrm.2.2.2⟩) (ppV hKN hP he hc) rfl hn hsz hst (lv_room hW) hdg hf) kk
theorem cpVl {post : Int64 → Prop} (X : CallFix p m c cc nL s args TB own) (hKN : KN D cA s) (hP : va_P D vwCl wsC H)
    (hM : Met l y (Cond.code y cc' mL ret :: TB) rm (PP D cA wsC (.ref b :: As)) (vp_Sl post) 0 0 (fun _ => False))
    (g : GoodIn TB (wsV own index y.cls y (Cond.code y cc' mL ret :: TB))) (hd : Hd y n) (hrm : Rm rm R mL 0 0) (hf : cells ≤ R.cells ∧ slots ≤ R.slots)
    (he : wsC[0]? = some (b, .inr (ci, fs))) (hc : vwCl[ci]? = some (y.cls, T, N)) (hn : As.length = n) (hsz : ls.size = nL) (hst : st0 = As.reverse ++ .ref b :: rest) (hW : (rest.map fun v => v.category).sum ≤ 8)
    (hdg : decode cc pc = .ok (.invokevirtual index, 3))
    (kk : ∀ r : Int64, post r → W p l e R s m args below meth c H locs cells slots Q (F0 m (pc + 3) ls (.long r :: rest))) : W p l e R s m args below meth c H locs cells slots Q (F0 m pc ls st0) :=
  runSl (va_runV (As := As) (rest := rest) X hM (cwV n X.2.2.2.2 g rfl hrm.1 hrm.2.1 ⟨rfl, hd⟩ ⟨hrm.2.2.1, hrm.2.2.2⟩) (ppV hKN hP he hc) rfl hn hsz hst (lv_room hW) hdg hf) kk
theorem cpSi {post : Int32 → Prop} (X : CallFix p m c cc nL s args TB own) (hKN : KN D cA s) (hP : va_P D vwCl wsC H)
    (hM : Met l y (Cond.code y cc' mL ret :: TB) rm (PP D cA wsC As) (vp_Si post) 0 0 (fun _ => False))
    (g : GoodIn TB (va_wsS own index y (Cond.code y cc' mL ret :: TB))) (hd : Hd y n) (hrm : Rm rm R mL 0 0) (hf : cells ≤ R.cells ∧ slots ≤ R.slots)
    (hn : As.length = n) (hsz : ls.size = nL) (hst : st0 = As.reverse ++ rest) (hW : (rest.map fun v => v.category).sum ≤ 8)
    (hdg : decode cc pc = .ok (.invokestatic index, 3))
    (kk : ∀ r : Int32, post r → W p l e R s m args below meth c H locs cells slots Q (F0 m (pc + 3) ls (.int r :: rest))) : W p l e R s m args below meth c H locs cells slots Q (F0 m pc ls st0) :=
  runSi (va_runS (As := As) (rest := rest) X hM (va_cwS n X.2.2.2.2 g rfl hrm.1 hrm.2.1 hd ⟨hrm.2.2.1, hrm.2.2.2⟩) (ppS hKN hP) rfl hn hsz hst (lv_room hW) hdg hf) kk
theorem cpSNi {post : Int32 → Prop} (X : CallFix p m c cc nL s args TB own) (hKN : KN D cA s) (hP : va_P D vwCl wsC H)
    (hM : Met l y (Cond.code y cc' mL ret :: TB) rm (PP D cA wsC As) (vp_Si post) 0 0 (fun _ => False))
    (g : (own, index, y, host) ∈ nestT ∧ Cond.static y ∈ TB ∧ Cond.initialized y.cls ∈ TB ∧ Cond.code y cc' mL ret ∈ TB) (hd : Hd y n) (hrm : Rm rm R mL 0 0) (hf : cells ≤ R.cells ∧ slots ≤ R.slots)
    (hn : As.length = n) (hsz : ls.size = nL) (hst : st0 = As.reverse ++ rest) (hW : (rest.map fun v => v.category).sum ≤ 8)
    (hdg : decode cc pc = .ok (.invokestatic index, 3))
    (kk : ∀ r : Int32, post r → W p l e R s m args below meth c H locs cells slots Q (F0 m (pc + 3) ls (.int r :: rest))) : W p l e R s m args below meth c H locs cells slots Q (F0 m pc ls st0) :=
  runSi (va_runSN (host := host) (As := As) (rest := rest) X hM ⟨va_cnB n X.2.2.2.2 (tb_c g.2.2.2) rfl hrm.1 hrm.2.1 (hKN.2.1 _ g.1) (X.2.2.2.2 _ g.2.2.1) hd ⟨hrm.2.2.1, hrm.2.2.2⟩, X.2.2.2.2 _ g.2.1, trivial⟩ (ppS hKN hP) rfl hn hsz hst (lv_room hW) hdg hf) kk
/-- a call that may write, void -/
theorem cmRv {S : Type} {post : S → Prop} {w' : S → va_W} {a : Array Value} {isC isR : List Nat} (hP : va_P D vwCl ws H) (hD : va_D A0 ws) (hS : va_S A0 H0 H locs) (hA : ∀ q, H0.size ≤ q → A0 q)
    (hC : isC.map (fun i => ws[i]?) = wsC.map some) (hR : isR.map (fun i => ws[i]?) = wr.map some) (hnd : va_nd isR = true) (hdis : ∀ i ∈ isR, i ∉ isC)
    (hr : va_Run p l e R s m args below meth c H locs cells slots mc ms (F0 m pc ls st0) rest (va_Qv post (fun u t => va_P D vwCl (w' u) t.heap ∧ va_D (va_A wsC H.size) (w' u)) (va_A wsC H.size) a) (va_A wsC H.size))
    (kk : ∀ (u : S) (H1 : Heap) (locs1 : List Loc), post u → va_P D vwCl (wr ++ w' u) H1 → va_D A0 (wr ++ w' u) → va_S A0 H0 H1 locs1 → W p l e R s m args below meth c H1 locs1 (cells + mc) (slots + ms) Q (F0 m (pc + 3) ls rest)) : W p l e R s m args below meth c H locs cells slots Q (F0 m pc ls st0) := by
  have hFc := va_free (wc := wsC) hD hS hA isC hC
  refine va_callv hr hS (fun q _ h => hFc q h) hFc (fun u t H1 locs ht hvm hw hB hz1 hk1 hS => ?_)
  obtain ⟨hP1, hD1⟩ := hB
  rw [ht] at hP1
  obtain ⟨hP, hD⟩ := va_join (wr := wr) (w1 := w' u) hP hD isC isR hC hR hnd hdis hk1 hFc hP1 hD1
  exact kk u H1 locs hw hP hD hS
theorem cmRi {S : Type} {post : Int32 → S → Prop} {w' : S → va_W} {a : Array Value} {isC isR : List Nat} (hP : va_P D vwCl ws H) (hD : va_D A0 ws) (hS : va_S A0 H0 H locs) (hA : ∀ q, H0.size ≤ q → A0 q)
    (hC : isC.map (fun i => ws[i]?) = wsC.map some) (hR : isR.map (fun i => ws[i]?) = wr.map some) (hnd : va_nd isR = true) (hdis : ∀ i ∈ isR, i ∉ isC)
    (hr : va_Run p l e R s m args below meth c H locs cells slots mc ms (F0 m pc ls st0) rest (va_Qi post (fun u t => va_P D vwCl (w' u) t.heap ∧ va_D (va_A wsC H.size) (w' u)) (va_A wsC H.size) a) (va_A wsC H.size))
    (kk : ∀ (r : Int32) (u : S) (H1 : Heap) (locs1 : List Loc), post r u → va_P D vwCl (wr ++ w' u) H1 → va_D A0 (wr ++ w' u) → va_S A0 H0 H1 locs1 → W p l e R s m args below meth c H1 locs1 (cells + mc) (slots + ms) Q (F0 m (pc + 3) ls (.int r :: rest))) : W p l e R s m args below meth c H locs cells slots Q (F0 m pc ls st0) := by
  have hFc := va_free (wc := wsC) hD hS hA isC hC
  refine va_calli hr hS (fun q _ h => hFc q h) hFc (fun r u t H1 locs ht hvm hw hB hz1 hk1 hS => ?_)
  obtain ⟨hP1, hD1⟩ := hB
  rw [ht] at hP1
  obtain ⟨hP, hD⟩ := va_join (wr := wr) (w1 := w' u) hP hD isC isR hC hR hnd hdis hk1 hFc hP1 hD1
  exact kk r u H1 locs hw hP hD hS
theorem subP {isC : List Nat} (hP : va_P D vwCl ws H) (hC : isC.map (fun i => ws[i]?) = wsC.map some) : va_P D vwCl wsC H := by
  intro k q hk
  have h1 : (isC.map (fun i => ws[i]?))[k]? = some (some q) := by rw [hC, List.getElem?_map, hk]; rfl
  rw [List.getElem?_map] at h1
  cases hi : isC[k]? with
  | none => rw [hi] at h1; cases h1
  | some i => rw [hi] at h1; exact hP i q (Option.some.inj h1)
theorem cmVv {S : Type} {post : S → Prop} {w' : S → va_W} (X : CallFix p m c cc nL s args TB own) (hKN : KN D cA s) (hP : va_P D vwCl ws H) (hD : va_D A0 ws) (hS : va_S A0 H0 H locs) (hA : ∀ q, H0.size ≤ q → A0 q)
    (isC isR : List Nat) (hC : isC.map (fun i => ws[i]?) = wsC.map some) (hR : isR.map (fun i => ws[i]?) = wr.map some) (hndC : va_nd isC = true) (hnd : va_nd isR = true) (hdis : ∀ i ∈ isR, i ∉ isC)
    (hM : Met l y (Cond.code y cc' mL ret :: TB) rm (PM D cA H.size wsC (.ref b :: As)) (va_Qv post (fun u t => va_P D vwCl (w' u) t.heap ∧ va_D (va_A wsC H.size) (w' u)) (va_A wsC H.size)) mc ms (va_A wsC H.size))
    (g : GoodIn TB (wsV own index y.cls y (Cond.code y cc' mL ret :: TB))) (hd : Hd y n) (hrm : Rm rm R mL mc ms) (hf : cells + mc ≤ R.cells ∧ slots + ms ≤ R.slots)
    (he : wsC[0]? = some (b, .inr (ci, fs))) (hc : vwCl[ci]? = some (y.cls, T, N)) (hn : As.length = n) (hsz : ls.size = nL) (hst : st0 = As.reverse ++ .ref b :: rest) (hW : (rest.map fun v => v.category).sum ≤ 8)
    (hdg : decode cc pc = .ok (.invokevirtual index, 3))
    (kk : ∀ (u : S) (H1 : Heap) (locs1 : List Loc), post u → va_P D vwCl (wr ++ w' u) H1 → va_D A0 (wr ++ w' u) → va_S A0 H0 H1 locs1 → W p l e R s m args below meth c H1 locs1 (cells + mc) (slots + ms) Q (F0 m (pc + 3) ls rest)) : W p l e R s m args below meth c H locs cells slots Q (F0 m pc ls st0) :=
  cmRv hP hD hS hA hC hR hnd hdis (va_runV (As := As) (rest := rest) X hM (cwV n X.2.2.2.2 g rfl hrm.1 hrm.2.1 ⟨rfl, hd⟩ ⟨hrm.2.2.1, hrm.2.2.2⟩) (pmV hKN (subP hP hC) (hD.sub isC hndC hC) he hc) rfl hn hsz hst (lv_room hW) hdg hf) kk
theorem cmVi {S : Type} {post : Int32 → S → Prop} {w' : S → va_W} (X : CallFix p m c cc nL s args TB own) (hKN : KN D cA s) (hP : va_P D vwCl ws H) (hD : va_D A0 ws) (hS : va_S A0 H0 H locs) (hA : ∀ q, H0.size ≤ q → A0 q)
    (isC isR : List Nat) (hC : isC.map (fun i => ws[i]?) = wsC.map some) (hR : isR.map (fun i => ws[i]?) = wr.map some) (hndC : va_nd isC = true) (hnd : va_nd isR = true) (hdis : ∀ i ∈ isR, i ∉ isC)
    (hM : Met l y (Cond.code y cc' mL ret :: TB) rm (PM D cA H.size wsC (.ref b :: As)) (va_Qi post (fun u t => va_P D vwCl (w' u) t.heap ∧ va_D (va_A wsC H.size) (w' u)) (va_A wsC H.size)) mc ms (va_A wsC H.size))
    (g : GoodIn TB (wsV own index y.cls y (Cond.code y cc' mL ret :: TB))) (hd : Hd y n) (hrm : Rm rm R mL mc ms) (hf : cells + mc ≤ R.cells ∧ slots + ms ≤ R.slots)
    (he : wsC[0]? = some (b, .inr (ci, fs))) (hc : vwCl[ci]? = some (y.cls, T, N)) (hn : As.length = n) (hsz : ls.size = nL) (hst : st0 = As.reverse ++ .ref b :: rest) (hW : (rest.map fun v => v.category).sum ≤ 8)
    (hdg : decode cc pc = .ok (.invokevirtual index, 3))
    (kk : ∀ (r : Int32) (u : S) (H1 : Heap) (locs1 : List Loc), post r u → va_P D vwCl (wr ++ w' u) H1 → va_D A0 (wr ++ w' u) → va_S A0 H0 H1 locs1 → W p l e R s m args below meth c H1 locs1 (cells + mc) (slots + ms) Q (F0 m (pc + 3) ls (.int r :: rest))) : W p l e R s m args below meth c H locs cells slots Q (F0 m pc ls st0) :=
  cmRi hP hD hS hA hC hR hnd hdis (va_runV (As := As) (rest := rest) X hM (cwV n X.2.2.2.2 g rfl hrm.1 hrm.2.1 ⟨rfl, hd⟩ ⟨hrm.2.2.1, hrm.2.2.2⟩) (pmV hKN (subP hP hC) (hD.sub isC hndC hC) he hc) rfl hn hsz hst (lv_room hW) hdg hf) kk
theorem cmSv {S : Type} {post : S → Prop} {w' : S → va_W} (X : CallFix p m c cc nL s args TB own) (hKN : KN D cA s) (hP : va_P D vwCl ws H) (hD : va_D A0 ws) (hS : va_S A0 H0 H locs) (hA : ∀ q, H0.size ≤ q → A0 q)
    (isC isR : List Nat) (hC : isC.map (fun i => ws[i]?) = wsC.map some) (hR : isR.map (fun i => ws[i]?) = wr.map some) (hndC : va_nd isC = true) (hnd : va_nd isR = true) (hdis : ∀ i ∈ isR, i ∉ isC)
    (hM : Met l y (Cond.code y cc' mL ret :: TB) rm (PM D cA H.size wsC As) (va_Qv post (fun u t => va_P D vwCl (w' u) t.heap ∧ va_D (va_A wsC H.size) (w' u)) (va_A wsC H.size)) mc ms (va_A wsC H.size))
    (g : GoodIn TB (va_wsS own index y (Cond.code y cc' mL ret :: TB))) (hd : Hd y n) (hrm : Rm rm R mL mc ms) (hf : cells + mc ≤ R.cells ∧ slots + ms ≤ R.slots)
    (hn : As.length = n) (hsz : ls.size = nL) (hst : st0 = As.reverse ++ rest) (hW : (rest.map fun v => v.category).sum ≤ 8)
    (hdg : decode cc pc = .ok (.invokestatic index, 3))
    (kk : ∀ (u : S) (H1 : Heap) (locs1 : List Loc), post u → va_P D vwCl (wr ++ w' u) H1 → va_D A0 (wr ++ w' u) → va_S A0 H0 H1 locs1 → W p l e R s m args below meth c H1 locs1 (cells + mc) (slots + ms) Q (F0 m (pc + 3) ls rest)) : W p l e R s m args below meth c H locs cells slots Q (F0 m pc ls st0) :=
  cmRv hP hD hS hA hC hR hnd hdis (va_runS (As := As) (rest := rest) X hM (va_cwS n X.2.2.2.2 g rfl hrm.1 hrm.2.1 hd ⟨hrm.2.2.1, hrm.2.2.2⟩) (pmS hKN (subP hP hC) (hD.sub isC hndC hC)) rfl hn hsz hst (lv_room hW) hdg hf) kk
theorem cmIv {S : Type} {post : S → Prop} {w' : S → va_W} (X : CallFix p m c cc nL s args TB own) (hKN : KN D cA s) (hP : va_P D vwCl ws H) (hD : va_D A0 ws) (hS : va_S A0 H0 H locs) (hA : ∀ q, H0.size ≤ q → A0 q)
    (isC isR : List Nat) (hC : isC.map (fun i => ws[i]?) = wsC.map some) (hR : isR.map (fun i => ws[i]?) = wr.map some) (hndC : va_nd isC = true) (hnd : va_nd isR = true) (hdis : ∀ i ∈ isR, i ∉ isC)
    (hM : Met l y (Cond.code y cc' mL none :: TB) rm (PM D cA H.size wsC (.ref b :: As)) (va_Qv post (fun u t => va_P D vwCl (w' u) t.heap ∧ va_D (va_A wsC H.size) (w' u)) (va_A wsC H.size)) mc ms (va_A wsC H.size))
    (g : Cond.methodLink own index y ∈ TB ∧ Cond.instanceMethod y ∈ TB ∧ Cond.initialized y.cls ∈ TB ∧ Cond.code y cc' mL none ∈ TB) (hd : y.name = "<init>" ∧ Hd y n) (hrm : Rm rm R mL mc ms) (hf : cells + mc ≤ R.cells ∧ slots + ms ≤ R.slots)
    (hn : As.length = n) (hsz : ls.size = nL) (hst : st0 = As.reverse ++ .ref b :: rest) (hW : (rest.map fun v => v.category).sum ≤ 8)
    (hdg : decode cc pc = .ok (.invokespecial index, 3))
    (kk : ∀ (u : S) (H1 : Heap) (locs1 : List Loc), post u → va_P D vwCl (wr ++ w' u) H1 → va_D A0 (wr ++ w' u) → va_S A0 H0 H1 locs1 → W p l e R s m args below meth c H1 locs1 (cells + mc) (slots + ms) Q (F0 m (pc + 3) ls rest)) : W p l e R s m args below meth c H locs cells slots Q (F0 m pc ls st0) :=
  cmRv hP hD hS hA hC hR hnd hdis (va_runI (As := As) (rest := rest) X hM (cwI n X.2.2.2.2 (tb_c g.2.2.2) rfl hrm.1 hrm.2.1 (X.2.2.2.2 _ g.2.2.1) (X.2.2.2.2 _ g.1) (X.2.2.2.2 _ g.2.1) hd.1 hd.2 ⟨hrm.2.2.1, hrm.2.2.2⟩) (pmS hKN (subP hP hC) (hD.sub isC hndC hC)) rfl hn hsz hst (lv_room hW) hdg hf) kk
theorem cmINv {S : Type} {post : S → Prop} {w' : S → va_W} (X : CallFix p m c cc nL s args TB own) (hKN : KN D cA s) (hP : va_P D vwCl ws H) (hD : va_D A0 ws) (hS : va_S A0 H0 H locs) (hA : ∀ q, H0.size ≤ q → A0 q)
    (isC isR : List Nat) (hC : isC.map (fun i => ws[i]?) = wsC.map some) (hR : isR.map (fun i => ws[i]?) = wr.map some) (hndC : va_nd isC = true) (hnd : va_nd isR = true) (hdis : ∀ i ∈ isR, i ∉ isC)
    (hM : Met l y (Cond.code y cc' mL none :: TB) rm (PM D cA H.size wsC (.ref b :: As)) (va_Qv post (fun u t => va_P D vwCl (w' u) t.heap ∧ va_D (va_A wsC H.size) (w' u)) (va_A wsC H.size)) mc ms (va_A wsC H.size))
    (g : (own, index, y, host) ∈ nestT ∧ Cond.instanceMethod y ∈ TB ∧ Cond.initialized y.cls ∈ TB ∧ Cond.code y cc' mL none ∈ TB) (hd : y.name = "<init>" ∧ Hd y n) (hrm : Rm rm R mL mc ms) (hf : cells + mc ≤ R.cells ∧ slots + ms ≤ R.slots)
    (hn : As.length = n) (hsz : ls.size = nL) (hst : st0 = As.reverse ++ .ref b :: rest) (hW : (rest.map fun v => v.category).sum ≤ 8)
    (hdg : decode cc pc = .ok (.invokespecial index, 3))
    (kk : ∀ (u : S) (H1 : Heap) (locs1 : List Loc), post u → va_P D vwCl (wr ++ w' u) H1 → va_D A0 (wr ++ w' u) → va_S A0 H0 H1 locs1 → W p l e R s m args below meth c H1 locs1 (cells + mc) (slots + ms) Q (F0 m (pc + 3) ls rest)) : W p l e R s m args below meth c H locs cells slots Q (F0 m pc ls st0) :=
  cmRv hP hD hS hA hC hR hnd hdis (va_runIN (host := host) (As := As) (rest := rest) X hM ⟨va_cnB n X.2.2.2.2 (tb_c g.2.2.2) rfl hrm.1 hrm.2.1 (hKN.2.1 _ g.1) (X.2.2.2.2 _ g.2.2.1) hd.2 ⟨hrm.2.2.1, hrm.2.2.2⟩, hd.1, X.2.2.2.2 _ g.2.1⟩ (pmS hKN (subP hP hC) (hD.sub isC hndC hC)) rfl hn hsz hst (lv_room hW) hdg hf) kk
/-- a new array of numbers, its class as the world has it -/
theorem nwA (hx : p.tables.exec = Jvm.exec) (hb : c.code = cc) {atype : ArrayType} {ty : FieldType} {a0 : vp_A} (harr : (Cond.arrayClass (newarray.typeOf atype)).before args s = true) (hty : newarray.typeOf atype = ty) (hKN : KN D cA s) (t0 : Nat) {cX : ClassId} (ht : (tyL cA)[t0]? = some (cX, ty))
    (hpr : ∀ c1, va_RA s c1 ty → s.vm.findClass ("[" ++ ty.toString) = some c1) (hP : va_P D vwCl ws H) (hD : va_D A0 ws) (hS : va_S A0 H0 H locs) (hA : ∀ q, H0.size ≤ q → A0 q)
    {i : Int32} {N' : Nat} (ha : ∀ cA : ClassId, vp_cell cA a0 = arrV cA N' (fun _ => defaultValue ty)) (hn : ¬ i < 0) (hN : i.toNatClampNeg = N') (hbytes : N' * componentBytes ty ≤ 536870912) (hcells : cells + 1 ≤ R.cells) (hslots : slots + N' ≤ R.slots) (hdg : decode cc pc = .ok (.newarray atype, 2))
    (kk : ∀ (q : Nat) (H1 : Heap), va_P D vwCl (ws ++ [(q, .inl (cX, a0))]) H1 → va_D A0 (ws ++ [(q, .inl (cX, a0))]) → va_S A0 H0 H1 locs →
      W p l e R s m args below meth c H1 locs (cells + 1) (slots + N') Q (F0 m (pc + 2) ls (.ref q :: rest))) : W p l e R s m args below meth c H locs cells slots Q (F0 m pc ls (.int i :: rest)) := by
  refine va_newa (atype := atype) (ty := ty) (a0 := a0) hx hb harr hty hKN.1 hP hD hS hA ha hn hN hbytes hcells hslots hdg (fun q c1 H1 hK1 hP1 hD1 hS1 => ?_)
  have h1 := hpr c1 (hK1.2 5 (c1, ty) rfl).2
  have h2 := hpr cX (hKN.1.2 t0 (cX, ty) ht).2
  have h3 : c1 = cX := Option.some.inj (h1.symm.trans h2)
  subst h3
  exact kk q H1 hP1 hD1 hS1
/-- a new array of references -/
theorem nwQ (hx : p.tables.exec = Jvm.exec) (hb : c.code = cc) {C : String} (hown : s.vm.findClass own = some m.cls) (hclink : (Cond.classLink own index C).before args s = true) (hKN : KN D cA s) (t0 : Nat) {cX : ClassId} (ht : (tyL cA)[t0]? = some (cX, .object C)) (hover : va_AO C s)
    (hP : va_P D vwCl ws H) (hD : va_D A0 ws) (hS : va_S A0 H0 H locs) (hA : ∀ q, H0.size ≤ q → A0 q)
    {n : Int32} {N' : Nat} (hn : ¬ n < 0) (hN : n.toNatClampNeg = N') (hbytes : N' * 4 ≤ 536870912) (hcells : cells + 1 ≤ R.cells) (hslots : slots + N' ≤ R.slots) (hdg : decode cc pc = .ok (.anewarray index, 3))
    (kk : ∀ (q : Nat) (H1 : Heap), va_P D vwCl (ws ++ [(q, .inl (cX, N', .inr (.inr (.inr (.inr (fun _ => none))))))]) H1 → va_D A0 (ws ++ [(q, .inl (cX, N', .inr (.inr (.inr (.inr (fun _ => none))))))]) → va_S A0 H0 H1 locs →
      W p l e R s m args below meth c H1 locs (cells + 1) (slots + N') Q (F0 m (pc + 3) ls (.ref q :: rest))) : W p l e R s m args below meth c H locs cells slots Q (F0 m pc ls (.int n :: rest)) := by
  refine va_newq hx hb hown hclink hover hKN.1 hP hD hS hA hn hN hbytes hcells hslots hdg (fun q c1 H1 hK1 hP1 hD1 hS1 => ?_)
  obtain ⟨-, -, -, -, -, h1⟩ := (hK1.2 5 (c1, .object C) rfl).2
  obtain ⟨-, -, -, -, -, h2⟩ := (hKN.1.2 t0 (cX, .object C) ht).2
  have h3 : c1 = cX := Option.some.inj (h1.symm.trans h2)
  subst h3
  exact kk q H1 hP1 hD1 hS1
end CP
theorem arrV_same {cI : ClassId} {N : Nat} {f g : Nat → Value} (h : ∀ j, j < N → f j = g j) : arrV cI N f = arrV cI N g := by
  unfold arrV
  have e : (fun j : Fin N => f j.val) = (fun j : Fin N => g j.val) := funext (fun j => h j.val j.isLt)
  rw [e]
/-- other contents that are the same within the row's length -/
theorem recellI {D : va_G} {cl : List vw_C} {ws : va_W} {H : Heap} {i a n : Nat} {cX : ClassId} {f g : Nat → Int32} (hP : va_P D cl ws H) (h : ws[i]? = some (a, .inl (cX, n, .inl f))) (hfg : ∀ j, j < n → f j = g j) : va_P D cl (ws.set i (a, .inl (cX, n, .inl g))) H := by
  intro k q hk
  by_cases e : k = i
  · subst e
    have hl := (List.getElem?_eq_some_iff.mp h).1
    rw [List.getElem?_set_self hl] at hk
    cases hk
    have h1 : H[a]? = some (vp_cell cX (n, .inl f)) := hP k _ h
    show H[a]? = some (vp_cell cX (n, .inl g))
    rw [h1, vp_cell_i, vp_cell_i, arrV_same (fun j hj => by rw [hfg j hj])]
  · rw [List.getElem?_set_ne (fun x => e x.symm)] at hk
    exact hP k q hk
theorem recellQ {D : va_G} {cl : List vw_C} {ws : va_W} {H : Heap} {i a n : Nat} {cX : ClassId} {f g : Nat → Option Nat} (hP : va_P D cl ws H) (h : ws[i]? = some (a, .inl (cX, n, .inr (.inr (.inr (.inr f)))))) (hfg : ∀ j, j < n → f j = g j) : va_P D cl (ws.set i (a, .inl (cX, n, .inr (.inr (.inr (.inr g)))))) H := by
  intro k q hk
  by_cases e : k = i
  · subst e
    have hl := (List.getElem?_eq_some_iff.mp h).1
    rw [List.getElem?_set_self hl] at hk
    cases hk
    have h1 : H[a]? = some (vp_cell cX (n, .inr (.inr (.inr (.inr f))))) := hP k _ h
    show H[a]? = some (vp_cell cX (n, .inr (.inr (.inr (.inr g)))))
    rw [h1, vp_cell_q, vp_cell_q, arrV_same (fun j hj => by rw [hfg j hj])]
  · rw [List.getElem?_set_ne (fun x => e x.symm)] at hk
    exact hP k q hk
/-- a loop: the machine at its head, by a measure that falls -/
theorem loopW {p : Program} {l : Launch} {e : Env} {R : Room} {s : State} {m : MethodId} {args : Array Value} {below : List Frame} {meth : Method} {c : Code} {cells slots : Nat} {Q : State → Prop} {σ : Type} {pc : Nat} (st : σ → List Value) (I : σ → Heap → List Loc → Array Slot → Prop) (μ : σ → Nat)
    (step : ∀ (x : σ) (H : Heap) (locs : List Loc) (ls : Array Slot), I x H locs ls → (∀ (y : σ) (H' : Heap) (locs' : List Loc) (ls' : Array Slot), I y H' locs' ls' → μ y < μ x → W p l e R s m args below meth c H' locs' cells slots Q (F0 m pc ls' (st y))) → W p l e R s m args below meth c H locs cells slots Q (F0 m pc ls (st x)))
    (x : σ) {H : Heap} {locs : List Loc} {ls : Array Slot} (h : I x H locs ls) : W p l e R s m args below meth c H locs cells slots Q (F0 m pc ls (st x)) := by
  have key : ∀ (n : Nat) (x : σ) (H : Heap) (locs : List Loc) (ls : Array Slot), μ x < n → I x H locs ls → W p l e R s m args below meth c H locs cells slots Q (F0 m pc ls (st x)) := by
    intro n
    induction n with
    | zero => exact fun _ _ _ _ h => absurd h (Nat.not_lt_zero _)
    | succ n ih => exact fun x H locs ls hn hI => step x H locs ls hI (fun y H' locs' ls' hy hlt => ih y H' locs' ls' (by omega) hy)
  exact key (μ x + 1) x H locs ls (Nat.lt_succ_self _) h
theorem tt_add {a b x : Int32} (e : x = a + b) (h1 : -2147483648 ≤ a.toInt + b.toInt) (h2 : a.toInt + b.toInt ≤ 2147483647) : x.toInt = a.toInt + b.toInt := by
  subst e
  rw [Int32.toInt_add]
  exact Int.bmod_eq_of_le (by omega) (by omega)
theorem tt_sub {a b x : Int32} (e : x = a - b) (h1 : -2147483648 ≤ a.toInt - b.toInt) (h2 : a.toInt - b.toInt ≤ 2147483647) : x.toInt = a.toInt - b.toInt := by
  subst e
  rw [Int32.toInt_sub]
  exact Int.bmod_eq_of_le (by omega) (by omega)
theorem tt_mul {a b x : Int32} {k : Int} (e : x = a * b) (hb : b.toInt = k) (h1 : -2147483648 ≤ a.toInt * k) (h2 : a.toInt * k ≤ 2147483647) : x.toInt = a.toInt * k := by
  subst e
  rw [Int32.toInt_mul, hb]
  exact Int.bmod_eq_of_le (by omega) (by omega)
theorem sw_11 (x : Int32) : x = 0 ∨ x = 1 ∨ x = 2 ∨ x = 3 ∨ x = 4 ∨ x = 5 ∨ x = 6 ∨ x = 7 ∨ x = 8 ∨ x = 9 ∨ x = 10 ∨ (x.toInt < 0 ∨ 10 < x.toInt) := by
  have h : x.toInt = 0 ∨ x.toInt = 1 ∨ x.toInt = 2 ∨ x.toInt = 3 ∨ x.toInt = 4 ∨ x.toInt = 5 ∨ x.toInt = 6 ∨ x.toInt = 7 ∨ x.toInt = 8 ∨ x.toInt = 9 ∨ x.toInt = 10 ∨ (x.toInt < 0 ∨ 10 < x.toInt) := by omega
  rcases h with h | h | h | h | h | h | h | h | h | h | h | h
  · exact Or.inl (Int32.toInt_inj.mp h)
  · exact Or.inr (Or.inl (Int32.toInt_inj.mp h))
  · exact Or.inr (Or.inr (Or.inl (Int32.toInt_inj.mp h)))
  · exact Or.inr (Or.inr (Or.inr (Or.inl (Int32.toInt_inj.mp h))))
  · exact Or.inr (Or.inr (Or.inr (Or.inr (Or.inl (Int32.toInt_inj.mp h)))))
  · exact Or.inr (Or.inr (Or.inr (Or.inr (Or.inr (Or.inl (Int32.toInt_inj.mp h))))))
  · exact Or.inr (Or.inr (Or.inr (Or.inr (Or.inr (Or.inr (Or.inl (Int32.toInt_inj.mp h)))))))
  · exact Or.inr (Or.inr (Or.inr (Or.inr (Or.inr (Or.inr (Or.inr (Or.inl (Int32.toInt_inj.mp h))))))))
  · exact Or.inr (Or.inr (Or.inr (Or.inr (Or.inr (Or.inr (Or.inr (Or.inr (Or.inl (Int32.toInt_inj.mp h)))))))))
  · exact Or.inr (Or.inr (Or.inr (Or.inr (Or.inr (Or.inr (Or.inr (Or.inr (Or.inr (Or.inl (Int32.toInt_inj.mp h))))))))))
  · exact Or.inr (Or.inr (Or.inr (Or.inr (Or.inr (Or.inr (Or.inr (Or.inr (Or.inr (Or.inr (Or.inl (Int32.toInt_inj.mp h)))))))))))
  · exact Or.inr (Or.inr (Or.inr (Or.inr (Or.inr (Or.inr (Or.inr (Or.inr (Or.inr (Or.inr (Or.inr h))))))))))
theorem rng3 {x : Int32} (h : 0 ≤ x.toInt ∧ x.toInt ≤ 2) : x = 0 ∨ x = 1 ∨ x = 2 := by
  have h : x.toInt = 0 ∨ x.toInt = 1 ∨ x.toInt = 2 := by omega
  rcases h with h | h | h
  · exact Or.inl (Int32.toInt_inj.mp h)
  · exact Or.inr (Or.inl (Int32.toInt_inj.mp h))
  · exact Or.inr (Or.inr (Int32.toInt_inj.mp h))
theorem tt_i2l {x : Int32} {y : Int64} (e : x.toInt64 = y) : y.toInt = x.toInt := by
  subst e
  exact Int32.toInt_toInt64 x
theorem tt_mulL {a b x : Int32} {k : Int} (e : x = a * b) (ha : a.toInt = k) (h1 : -2147483648 ≤ b.toInt * k) (h2 : b.toInt * k ≤ 2147483647) : x.toInt = b.toInt * k := tt_mul (e.trans (Int32.mul_comm a b)) ha h1 h2
theorem c_lt {x y : Int64} (h : lg_cmp x y < 0) : x.toInt < y.toInt := Int64.lt_iff_toInt_lt.mp ((lg_cmp_lt x y).mp h)
theorem c_nlt {x y : Int64} (h : ¬ lg_cmp x y < 0) : y.toInt ≤ x.toInt := Int.not_lt.mp (fun q => h ((lg_cmp_lt x y).mpr (Int64.lt_iff_toInt_lt.mpr q)))
theorem c_gt {x y : Int64} (h : 0 < lg_cmp x y) : y.toInt < x.toInt := Int64.lt_iff_toInt_lt.mp ((lg_cmp_gt x y).mp h)
theorem c_ngt {x y : Int64} (h : ¬ 0 < lg_cmp x y) : x.toInt ≤ y.toInt := Int.not_lt.mp (fun q => h ((lg_cmp_gt x y).mpr (Int64.lt_iff_toInt_lt.mpr q)))
theorem c_ge {x y : Int64} (h : 0 ≤ lg_cmp x y) : y.toInt ≤ x.toInt := Int64.le_iff_toInt_le.mp ((lg_cmp_ge x y).mp h)
theorem c_nge {x y : Int64} (h : ¬ 0 ≤ lg_cmp x y) : x.toInt < y.toInt := Int.not_le.mp (fun q => h ((lg_cmp_ge x y).mpr (Int64.le_iff_toInt_le.mpr q)))
theorem c_le {x y : Int64} (h : lg_cmp x y ≤ 0) : x.toInt ≤ y.toInt := Int64.le_iff_toInt_le.mp ((lg_cmp_le x y).mp h)
theorem c_nle {x y : Int64} (h : ¬ lg_cmp x y ≤ 0) : y.toInt < x.toInt := Int.not_le.mp (fun q => h ((lg_cmp_le x y).mpr (Int64.le_iff_toInt_le.mpr q)))
theorem c_eq {x y : Int64} (h : lg_cmp x y = 0) : x.toInt = y.toInt := congrArg _ ((lg_cmp_eq x y).mp h)
theorem c_ne {x y : Int64} (h : ¬ lg_cmp x y = 0) : x.toInt ≠ y.toInt := fun q => h ((lg_cmp_eq x y).mpr (Int64.toInt_inj.mp q))
theorem upd_c (k : Nat) (c : Int32) : upd (fun _ => c) k c = (fun _ => c) := by
  funext j
  unfold upd
  split <;> rfl
theorem updL_c (k : Nat) (c : Int64) : vp_updL (fun _ => c) k c = (fun _ => c) := by
  funext j
  unfold vp_updL
  split <;> rfl


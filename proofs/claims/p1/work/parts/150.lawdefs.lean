/-! THE CLAIM OUT OF ONE WALK OF THE LAW'S BODY. Your part is whole_start (and what it stands on); all else here is the same for every law, but numbers. -/
def R_law : String := "WristTreatyLaw"
def lw_P (b : Addr) (xs : List Int32) (args : Array Value) (s : State) : Prop := args = #[.ref b] ∧ s.IntsAt b xs ∧ xs.length ≤ 6 ∧ (Jvm.Cond.and given_1 narrow_1).before args s = true
def lw_Q (_ : Array Value) (s : State) (o : Outcome) (t : State) : Prop := o = .returned (some (.int 1)) ∧ Framed s o t [] 600000 7302250
def lw_Z (below : List Frame) (a : Array Value) (s : State) : State → Prop := fun t => ∃ o, t.status = .running ∧ Ended t below o ∧ lw_Q a s o t
/-- the law's own end, with 1 on the stack, nothing written that was there before, its room as the claim has it -/
theorem lw_ret {p : Program} {l : Launch} {e : Env} {s : State} {m : MethodId} {below : List Frame} {meth : Method} {c : Code} {b : Nat} (hx : p.tables.exec = Jvm.exec) (hb : c.code = code) (hr : meth.sig.returnType = ret) (hlocks : meth.locks = false) {pc : Nat} {H : Heap} {ls : Array Slot} (hdg : decode code pc = .ok (.ireturn, 1)) : W p l e room_1 s m #[Value.ref b] below meth c H [] 600000 7302250 (lw_Z below #[Value.ref b] s) (F0 m pc ls [.int 1]) := by
  intro T hT X
  obtain ⟨fs, hret, hrun, hended, hW, hframe⟩ := X.leave (v := some (.int 1)) (hlocks := hlocks) (fun h => by rw [hr] at h; cases h)
  have hmeth' : T.vm.method? m = some meth := X.method'
  refine ⟨T.setFrames fs, ?_, .returned (some (.int 1)), hrun, hended, rfl, ⟨_, rfl⟩, hW, hframe⟩
  jvm_step X.here [X.here.top, hx, hb, hdg, hmeth', hr, ret, narrow_b1]
  (try refine ⟨rfl, ?_⟩); (try refine ⟨rfl, ?_⟩)
  first | (intro acts; rw [hret _ acts rfl rfl rfl]) | rw [hret _ _ rfl rfl rfl]
  exact Steps.refl _
/-- what holds at the law's entry: the machine, the code, the tables' words (any of lw_tbl by 'hts w (by decide +kernel)'), the script of L ints xs at the cell b, what the Statement gives of the start (any of its parts by flat_of_before) -/
def lw_At (p : Program) (s : State) (m : MethodId) (meth : Method) (c : Code) (b L : Nat) (xs : Nat → Int32) : Prop :=
  p.tables.exec = Jvm.exec ∧ c.code = code ∧ meth.sig.returnType = ret ∧ c.maxLocals = 4 ∧ s.vm.findClass R_law = some m.cls ∧ (∀ w ∈ lw_tbl, w.before #[Value.ref b] s = true) ∧ va_X b L xs s s.heap ∧ b < s.heap.size ∧ meth.locks = false ∧ (Jvm.Cond.and given_1 narrow_1).before #[Value.ref b] s = true
def wXM (cA : Nat → ClassId) (qx qm : Nat) (u v : SU) : va_W := [(qx, .inr (11, [.ref (u.1 0), .ref (u.1 2), .ref (u.1 13), .ref (u.1 22), .ref (u.1 26), .ref (u.1 69), .ref (u.1 73), .ref (u.1 74), .ref (u.1 77), .ref (u.1 79), .ref (u.1 83)])), ((u.1 0), .inr (9, [.ref (u.1 1), .int 0])), ((u.1 1), .inl (cA 0, 800, .inl (fun _ => 0))), ((u.1 2), .inr (6, [.ref (u.1 3), .int 0, .int (-1), .ref (u.1 0), .int 0, .int 0, .int 0, .int 0, .int 0, .int 0, .int 0, .int 0, .ref (u.1 12)])), ((u.1 3), .inr (3, [.int 0, .int 0, .int 0, .int 0, .int 0, .int 0, .int 0, .int 0, .ref (u.1 4), .ref (u.1 5), .ref (u.1 6), .ref (u.1 7), .ref (u.1 8), .ref (u.1 9), .ref (u.1 10), .ref (u.1 11)])), ((u.1 4), .inl (cA 1, 8, .inl (fun _ => 0))), ((u.1 5), .inl (cA 1, 8, .inl (fun _ => 0))), ((u.1 6), .inl (cA 1, 8, .inl (fun _ => 0))), ((u.1 7), .inl (cA 1, 7, .inl (fun _ => 0))), ((u.1 8), .inl (cA 1, 7, .inl (fun _ => 0))), ((u.1 9), .inl (cA 1, 7, .inl (fun _ => 0))), ((u.1 10), .inl (cA 1, 4, .inl (fun _ => 0))), ((u.1 11), .inl (cA 1, 4, .inl (fun _ => 0))), ((u.1 12), .inl (cA 1, 3, .inl (fun _ => 0))), ((u.1 13), .inr (3, [.int 0, .int 0, .int 0, .int 0, .int 0, .int 0, .int 0, .int 0, .ref (u.1 14), .ref (u.1 15), .ref (u.1 16), .ref (u.1 17), .ref (u.1 18), .ref (u.1 19), .ref (u.1 20), .ref (u.1 21)])), ((u.1 14), .inl (cA 1, 8, .inl (fun _ => 0))), ((u.1 15), .inl (cA 1, 8, .inl (fun _ => 0))), ((u.1 16), .inl (cA 1, 8, .inl (fun _ => 0))), ((u.1 17), .inl (cA 1, 7, .inl (fun _ => 0))), ((u.1 18), .inl (cA 1, 7, .inl (fun _ => 0))), ((u.1 19), .inl (cA 1, 7, .inl (fun _ => 0))), ((u.1 20), .inl (cA 1, 4, .inl (fun _ => 0))), ((u.1 21), .inl (cA 1, 4, .inl (fun _ => 0))), ((u.1 22), .inr (2, [.int (-1), .int (-1), .int 0, .int 0, .int 0, .int 0, .int 0, .ref (u.1 23), .ref (u.1 24), .ref (u.1 25)])), ((u.1 23), .inl (cA 1, 60, .inl (fun _ => 0))), ((u.1 24), .inl (cA 1, 60, .inl (fun _ => 0))), ((u.1 25), .inl (cA 1, 60, .inl (fun _ => 0))), ((u.1 26), .inl (cA 4, 3, .inr (.inr (.inr (.inr (selO [(u.1 27), (u.1 41), (u.1 55)])))))), ((u.1 27), .inr (4, [.ref (u.1 28), .ref (u.1 37), .int 0])), ((u.1 28), .inr (3, [.int 0, .int 0, .int 0, .int 0, .int 0, .int 0, .int 0, .int 0, .ref (u.1 29), .ref (u.1 30), .ref (u.1 31), .ref (u.1 32), .ref (u.1 33), .ref (u.1 34), .ref (u.1 35), .ref (u.1 36)])), ((u.1 29), .inl (cA 1, 8, .inl (fun _ => 0))), ((u.1 30), .inl (cA 1, 8, .inl (fun _ => 0))), ((u.1 31), .inl (cA 1, 8, .inl (fun _ => 0))), ((u.1 32), .inl (cA 1, 7, .inl (fun _ => 0))), ((u.1 33), .inl (cA 1, 7, .inl (fun _ => 0))), ((u.1 34), .inl (cA 1, 7, .inl (fun _ => 0))), ((u.1 35), .inl (cA 1, 4, .inl (fun _ => 0))), ((u.1 36), .inl (cA 1, 4, .inl (fun _ => 0))), ((u.1 37), .inr (2, [.int (-1), .int (-1), .int 0, .int 0, .int 0, .int 0, .int 0, .ref (u.1 38), .ref (u.1 39), .ref (u.1 40)])), ((u.1 38), .inl (cA 1, 60, .inl (fun _ => 0))), ((u.1 39), .inl (cA 1, 60, .inl (fun _ => 0))), ((u.1 40), .inl (cA 1, 60, .inl (fun _ => 0))), ((u.1 41), .inr (4, [.ref (u.1 42), .ref (u.1 51), .int 0])), ((u.1 42), .inr (3, [.int 0, .int 0, .int 0, .int 0, .int 0, .int 0, .int 0, .int 0, .ref (u.1 43), .ref (u.1 44), .ref (u.1 45), .ref (u.1 46), .ref (u.1 47), .ref (u.1 48), .ref (u.1 49), .ref (u.1 50)])), ((u.1 43), .inl (cA 1, 8, .inl (fun _ => 0))), ((u.1 44), .inl (cA 1, 8, .inl (fun _ => 0))), ((u.1 45), .inl (cA 1, 8, .inl (fun _ => 0))), ((u.1 46), .inl (cA 1, 7, .inl (fun _ => 0))), ((u.1 47), .inl (cA 1, 7, .inl (fun _ => 0))), ((u.1 48), .inl (cA 1, 7, .inl (fun _ => 0))), ((u.1 49), .inl (cA 1, 4, .inl (fun _ => 0))), ((u.1 50), .inl (cA 1, 4, .inl (fun _ => 0))), ((u.1 51), .inr (2, [.int (-1), .int (-1), .int 0, .int 0, .int 0, .int 0, .int 0, .ref (u.1 52), .ref (u.1 53), .ref (u.1 54)])), ((u.1 52), .inl (cA 1, 60, .inl (fun _ => 0))), ((u.1 53), .inl (cA 1, 60, .inl (fun _ => 0))), ((u.1 54), .inl (cA 1, 60, .inl (fun _ => 0))), ((u.1 55), .inr (4, [.ref (u.1 56), .ref (u.1 65), .int 0])), ((u.1 56), .inr (3, [.int 0, .int 0, .int 0, .int 0, .int 0, .int 0, .int 0, .int 0, .ref (u.1 57), .ref (u.1 58), .ref (u.1 59), .ref (u.1 60), .ref (u.1 61), .ref (u.1 62), .ref (u.1 63), .ref (u.1 64)])), ((u.1 57), .inl (cA 1, 8, .inl (fun _ => 0))), ((u.1 58), .inl (cA 1, 8, .inl (fun _ => 0))), ((u.1 59), .inl (cA 1, 8, .inl (fun _ => 0))), ((u.1 60), .inl (cA 1, 7, .inl (fun _ => 0))), ((u.1 61), .inl (cA 1, 7, .inl (fun _ => 0))), ((u.1 62), .inl (cA 1, 7, .inl (fun _ => 0))), ((u.1 63), .inl (cA 1, 4, .inl (fun _ => 0))), ((u.1 64), .inl (cA 1, 4, .inl (fun _ => 0))), ((u.1 65), .inr (2, [.int (-1), .int (-1), .int 0, .int 0, .int 0, .int 0, .int 0, .ref (u.1 66), .ref (u.1 67), .ref (u.1 68)])), ((u.1 66), .inl (cA 1, 60, .inl (fun _ => 0))), ((u.1 67), .inl (cA 1, 60, .inl (fun _ => 0))), ((u.1 68), .inl (cA 1, 60, .inl (fun _ => 0))), ((u.1 69), .inr (7, [.ref (u.1 72), .ref (u.1 70), .ref (u.1 71)])), ((u.1 70), .inl (cA 1, 4, .inl (fun _ => 0))), ((u.1 71), .inl (cA 2, 240, .inr (.inl (fun _ => 0)))), ((u.1 72), .inl (cA 1, 4, .inl (fun _ => (-1)))), ((u.1 73), .inr (1, [.int (-1), .int 1, .ref (u.1 13)])), ((u.1 74), .inr (5, [.ref (u.1 75), .int 0, .int 0, .ref (u.1 76), .int 0, .ref (u.1 13)])), ((u.1 75), .inl (cA 1, 8, .inl (fun _ => 0))), ((u.1 76), .inl (cA 1, 8, .inl (fun _ => 0))), ((u.1 77), .inr (8, [.ref (u.1 78), .ref (u.1 13)])), ((u.1 78), .inl (cA 1, 128, .inl (fun _ => 0))), ((u.1 79), .inr (0, [.int 0, .int (-1), .int 0, .ref (u.1 80), .ref (u.1 81), .ref (u.1 82), .ref (u.1 13)])), ((u.1 80), .inl (cA 1, 128, .inl (fun _ => 0))), ((u.1 81), .inl (cA 1, 128, .inl (fun _ => 0))), ((u.1 82), .inl (cA 1, 128, .inl (fun _ => 0))), ((u.1 83), .inr (10, [.int 0, .ref (u.1 84), .ref (u.1 85), .ref (u.1 13), .ref (u.1 69)])), ((u.1 84), .inl (cA 3, 240, .inl (fun _ => 0))), ((u.1 85), .inl (cA 1, 40, .inl (fun _ => 0))), (qm, .inr (12, [.int 0, .ref (v.1 0), .ref (v.1 1), .ref (v.1 2), .ref (v.1 3), .int 0, .ref (v.1 4), .int 0, .int 0, .int 0, .int 0, .int 0, .int 0, .int (-1), .ref (v.1 5), .int 0, .int 0, .int 0, .int 0, .int 0, .int 0, .ref (v.1 6), .ref (v.1 7), .ref (v.1 8), .ref (v.1 9), .int 0, .int 0, .ref (v.1 10), .int 0, .ref (v.1 11), .int 0, .ref (v.1 12), .ref (v.1 13), .ref (v.1 14), .ref (v.1 15)])), ((v.1 0), .inl (cA 1, 122, .inl (fun _ => 0))), ((v.1 1), .inl (cA 1, 366, .inl (fun _ => 0))), ((v.1 2), .inl (cA 3, 3, .inl (fun _ => 0))), ((v.1 3), .inl (cA 0, 800, .inl (fun _ => 0))), ((v.1 4), .inl (cA 1, 5, .inl (fun _ => 0))), ((v.1 5), .inl (cA 1, 122, .inl (fun _ => 0))), ((v.1 6), .inl (cA 1, 2304, .inl (fun _ => 0))), ((v.1 7), .inl (cA 1, 2304, .inl (fun _ => 0))), ((v.1 8), .inl (cA 1, 8, .inl (fun _ => 0))), ((v.1 9), .inl (cA 1, 60, .inl (fun _ => 0))), ((v.1 10), .inl (cA 1, 7, .inl (fun _ => 0))), ((v.1 11), .inl (cA 1, 240, .inl (fun _ => 0))), ((v.1 12), .inl (cA 1, 4, .inl (fun _ => (-1)))), ((v.1 13), .inl (cA 1, 4, .inl (fun _ => 0))), ((v.1 14), .inl (cA 2, 240, .inr (.inl (fun _ => 0)))), ((v.1 15), .inl (cA 2, 60, .inr (.inl (fun _ => 0))))]
set_option maxHeartbeats 4000000 in
set_option maxRecDepth 100000 in
theorem lawEnd {p : Program} {e : Env} {s : State} {m : MethodId} {below : List Frame} {meth : Method} {c : Code} (l : Launch) {b : Nat} {xs : Nat → Int32} (C0 : lw_At p s m meth c b 6 xs) {H : Heap} {locs : List Loc} {ls : Array Slot} {qx qm cells slots : Nat} (hS : va_S (fun q : Nat => s.heap.size ≤ q) s.heap H locs) (h1 : cells ≤ 600000) (h2 : slots ≤ 7302250) (hl : lv_has ls 4 [(3, .int 0), (2, .ref qm), (1, .ref qx), (0, .ref b)]) : W p l e room_1 s m #[Value.ref b] below meth c H locs cells slots (lw_Z below #[Value.ref b] s) (F0 m 2271 ls []) := by
  obtain ⟨hx, hb, hr, hml, hown, hts0, hX, hbl, hlocks, hgv⟩ := id C0
  have hb : c.code = cL_law := hb
  have hbA : ¬ (fun q : Nat => s.heap.size ≤ q) b := Nat.not_le.mpr hbl
  refine lv_iinc (v := 6) (lv' := [(3, .int 6), (2, .ref qm), (1, .ref qx), (0, .ref b)]) hx hb dL_law_2271 hl (k := 0) rfl (by decide) (by decide) rfl (fun ls hl => ?_)
  refine lv_goto (tgt := 18) hx hb dL_law_2274 (by decide) ?_
  refine lv_iload_n hx hb dL_law_18 rfl (lv_at hl 0 rfl) ?_
  refine lv_aload_n hx hb dL_law_19 rfl (lv_at hl 3 rfl) ?_
  refine va_slen hx hb hX hbl hbA hS dL_law_20 ?_
  refine lv_bipush (v := 6) hx hb dL_law_21 (by decide) ?_
  refine lv_isub hx hb dL_law_23 ?_
  refine lv_icmp_gt (tgt := 2277) hx hb dL_law_24 (by decide) (fun _ => ?_) (fun c1 => absurd (by decide) c1)
  refine lv_iconst (v := 1) hx hb dL_law_2277 (by decide) ?_
  refine va_forget hS.2.2 ?_
  refine W.widen (k := 600000) (n := 7302250) h1 h2 ?_
  exact lw_ret hx hb hr hlocks dL_law_2278
set_option maxHeartbeats 4000000 in
set_option maxRecDepth 100000 in
theorem lawKN {s : State} {args : Array Value} (hts0 : ∀ w ∈ lw_tbl, w.before args s = true) : ∃ (D : va_G) (cA : Nat → ClassId), KN D cA s := by
  have hts : ∀ w ∈ TB, w.before args s = true := fun w h => hts0 w (List.mem_filter.mp h).1
  obtain ⟨c0, iS0, hKn0⟩ := u_known (C := RX0) (T := TX0) (N := 7) (n := 7) hts inX0 (hts _ tw_412)
  obtain ⟨c1, iS1, hKn1⟩ := u_known (C := RX1) (T := TX1) (N := 3) (n := 3) hts inX1 (hts _ tw_355)
  obtain ⟨c2, iS2, hKn2⟩ := u_known (C := RX2) (T := TX2) (N := 10) (n := 10) hts inX2 (hts _ tw_270)
  obtain ⟨c3, iS3, hKn3⟩ := u_known (C := RX3) (T := TX3) (N := 16) (n := 16) hts inX3 (hts _ tw_153)
  obtain ⟨c4, iS4, hKn4⟩ := u_known (C := RX4) (T := TX4) (N := 3) (n := 3) hts inX4 (hts _ tw_313)
  obtain ⟨c5, iS5, hKn5⟩ := u_known (C := RX5) (T := TX5) (N := 6) (n := 6) hts inX5 (hts _ tw_372)
  obtain ⟨c6, iS6, hKn6⟩ := u_known (C := RX6) (T := TX6) (N := 13) (n := 13) hts inX6 (hts _ tw_147)
  obtain ⟨c7, iS7, hKn7⟩ := u_known (C := RX7) (T := TX7) (N := 3) (n := 3) hts inX7 (hts _ tw_335)
  obtain ⟨c8, iS8, hKn8⟩ := u_known (C := RX8) (T := TX8) (N := 2) (n := 2) hts inX8 (hts _ tw_399)
  obtain ⟨c9, iS9, hKn9⟩ := u_known (C := RX9) (T := TX9) (N := 2) (n := 2) hts inX9 (hts _ tw_131)
  obtain ⟨c10, iS10, hKn10⟩ := u_known (C := RX10) (T := TX10) (N := 5) (n := 5) hts inX10 (hts _ tw_442)
  obtain ⟨c11, iS11, hKn11⟩ := u_known (C := RX11) (T := TX11) (N := 11) (n := 11) hts inX11 (hts _ tw_123)
  obtain ⟨c12, iS12, hKn12⟩ := u_known (C := RX12) (T := TX12) (N := 35) (n := 35) hts inX12 (hts _ tw_1415)
  obtain ⟨ab, kb, pb, fb, gb, qb⟩ := Cond.arrayClass_spec (hts _ tw_145)
  obtain ⟨ai, ki, pi, fi, gi, qi⟩ := Cond.arrayClass_spec (hts _ tw_223)
  obtain ⟨aj, kj, pj, fj, gj, qj⟩ := Cond.arrayClass_spec (hts _ tw_353)
  obtain ⟨az, kz, pz, fz, gz, qz⟩ := Cond.arrayClass_spec (hts _ tw_464)
  have hov : (Cond.arrayOver (.object "WristTreaty$Image")).before args s = true := hts0 _ (List.mem_of_getElem? (i := 312) (by decide +kernel))
  obtain ⟨co, ao, ko, h1, h2, h3, h4, h5⟩ := Cond.arrayOver_spec hov
  refine ⟨(fun k => [c0, c1, c2, c3, c4, c5, c6, c7, c8, c9, c10, c11, c12].getD k 0, fun k => [iS0, iS1, iS2, iS3, iS4, iS5, iS6, iS7, iS8, iS9, iS10, iS11, iS12].getD k (fun _ => 0)), fun k => [ab, ai, aj, az, ao].getD k 0, ⟨fun k q hq => ?_, fun k q hq => ?_⟩, fun q hq => ?_, va_AO.of hov⟩
  · match k, hq with
    | 0, hq => cases hq; exact hKn0
    | 1, hq => cases hq; exact hKn1
    | 2, hq => cases hq; exact hKn2
    | 3, hq => cases hq; exact hKn3
    | 4, hq => cases hq; exact hKn4
    | 5, hq => cases hq; exact hKn5
    | 6, hq => cases hq; exact hKn6
    | 7, hq => cases hq; exact hKn7
    | 8, hq => cases hq; exact hKn8
    | 9, hq => cases hq; exact hKn9
    | 10, hq => cases hq; exact hKn10
    | 11, hq => cases hq; exact hKn11
    | 12, hq => cases hq; exact hKn12
    | k + 13, hq => simp [vwCl] at hq
  · match k, hq with
    | 0, hq => cases hq; exact ⟨fun n z => ⟨fun k h => (by cases h), kb, gb, pb, qb⟩, fb⟩
    | 1, hq => cases hq; exact ⟨fun n z => ⟨fun k h => (by cases h), ki, gi, pi, qi⟩, fi⟩
    | 2, hq => cases hq; exact ⟨fun n z => ⟨fun k h => (by cases h), kj, gj, pj, qj⟩, fj⟩
    | 3, hq => cases hq; exact ⟨fun n z => ⟨fun k h => (by cases h), kz, gz, pz, qz⟩, fz⟩
    | 4, hq => cases hq; exact ⟨fun n z => ⟨fun k h => (by cases h), ko, h3, co, h4⟩, ko, co, h3, h4, h1, h5⟩
    | k + 5, hq => simp [tyL] at hq
  · have key : ∀ q ∈ nestT, Cond.methodLinkNest q.1 q.2.1 q.2.2.1 q.2.2.2 ∈ lw_tbl := by
      intro q hq
      obtain ⟨i, hi⟩ := List.mem_iff_getElem?.mp hq
      match i, hi with
      | 0, hi => cases hi; exact List.mem_of_getElem? (i := 132) (by decide +kernel)
      | 1, hi => cases hi; exact List.mem_of_getElem? (i := 154) (by decide +kernel)
      | 2, hi => cases hi; exact List.mem_of_getElem? (i := 268) (by decide +kernel)
      | 3, hi => cases hi; exact List.mem_of_getElem? (i := 271) (by decide +kernel)
      | 4, hi => cases hi; exact List.mem_of_getElem? (i := 314) (by decide +kernel)
      | 5, hi => cases hi; exact List.mem_of_getElem? (i := 319) (by decide +kernel)
      | 6, hi => cases hi; exact List.mem_of_getElem? (i := 321) (by decide +kernel)
      | 7, hi => cases hi; exact List.mem_of_getElem? (i := 548) (by decide +kernel)
      | 8, hi => cases hi; exact List.mem_of_getElem? (i := 744) (by decide +kernel)
      | 9, hi => cases hi; exact List.mem_of_getElem? (i := 781) (by decide +kernel)
      | 10, hi => cases hi; exact List.mem_of_getElem? (i := 904) (by decide +kernel)
      | 11, hi => cases hi; exact List.mem_of_getElem? (i := 964) (by decide +kernel)
      | 12, hi => cases hi; exact List.mem_of_getElem? (i := 1205) (by decide +kernel)
      | 13, hi => cases hi; exact List.mem_of_getElem? (i := 1331) (by decide +kernel)
      | i + 14, hi => simp [nestT] at hi
    exact va_Nw.of rfl (hts0 _ (key q hq))

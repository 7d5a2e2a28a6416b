set_option maxHeartbeats 4000000 in
set_option maxRecDepth 100000 in
theorem law_c50 {p : Program} {e : Env} {s : State} {m : MethodId} {below : List Frame} {meth : Method} {c : Code} (l : Launch) {b : Nat} {xs : Nat → Int32} (C0 : lw_At p s m meth c b 6 xs) (D : va_G) (cA : Nat → ClassId) (hKN : KN D cA s) {H : Heap} {locs : List Loc} {ls : Array Slot} (qx qm : Nat) (u v : SU) (hP : va_P D vwCl (wXM cA qx qm u v) H) (hD : va_D (fun q : Nat => s.heap.size ≤ q) (wXM cA qx qm u v)) (hS : va_S (fun q : Nat => s.heap.size ≤ q) s.heap H locs) (hl : lv_has ls 4 [(3, .int 0), (2, .ref qm), (1, .ref qx), (0, .ref b)]) : W p l e room_1 s m #[Value.ref b] below meth c H locs 104 9712 (lw_Z below #[Value.ref b] s) (F0 m 1490 ls []) := by
  obtain ⟨hx, hb, hr, hml, hown, hts0, hX, hbl, hlocks, hgv⟩ := id C0
  have hts : ∀ w ∈ TB, w.before _ s = true := fun w h => hts0 w (List.mem_filter.mp h).1
  have hb : c.code = cL_law := hb
  have hown : s.vm.findClass "WristTreatyLaw" = some m.cls := hown
  have hA : ∀ q : Nat, s.heap.size ≤ q → (fun q : Nat => s.heap.size ≤ q) q := fun _ h => h
  have hbA : ¬ (fun q : Nat => s.heap.size ≤ q) b := Nat.not_le.mpr hbl
  have hP := hP.sub (ws' := [(qx, .inr (11, [.ref (u.1 0), .ref (u.1 2), .ref (u.1 13), .ref (u.1 22), .ref (u.1 26), .ref (u.1 69), .ref (u.1 73), .ref (u.1 74), .ref (u.1 77), .ref (u.1 79), .ref (u.1 83)])), ((u.1 13), .inr (3, [.int 0, .int 0, .int 0, .int 0, .int 0, .int 0, .int 0, .int 0, .ref (u.1 14), .ref (u.1 15), .ref (u.1 16), .ref (u.1 17), .ref (u.1 18), .ref (u.1 19), .ref (u.1 20), .ref (u.1 21)])), (qm, .inr (12, [.int 0, .ref (v.1 0), .ref (v.1 1), .ref (v.1 2), .ref (v.1 3), .int 0, .ref (v.1 4), .int 0, .int 0, .int 0, .int 0, .int 0, .int 0, .int (-1), .ref (v.1 5), .int 0, .int 0, .int 0, .int 0, .int 0, .int 0, .ref (v.1 6), .ref (v.1 7), .ref (v.1 8), .ref (v.1 9), .int 0, .int 0, .ref (v.1 10), .int 0, .ref (v.1 11), .int 0, .ref (v.1 12), .ref (v.1 13), .ref (v.1 14), .ref (v.1 15)])), ((v.1 0), .inl (cA 1, 122, .inl (fun _ => 0)))]) [0, 14, 87, 88] rfl
  have hD := hD.sub (ws' := [(qx, .inr (11, [.ref (u.1 0), .ref (u.1 2), .ref (u.1 13), .ref (u.1 22), .ref (u.1 26), .ref (u.1 69), .ref (u.1 73), .ref (u.1 74), .ref (u.1 77), .ref (u.1 79), .ref (u.1 83)])), ((u.1 13), .inr (3, [.int 0, .int 0, .int 0, .int 0, .int 0, .int 0, .int 0, .int 0, .ref (u.1 14), .ref (u.1 15), .ref (u.1 16), .ref (u.1 17), .ref (u.1 18), .ref (u.1 19), .ref (u.1 20), .ref (u.1 21)])), (qm, .inr (12, [.int 0, .ref (v.1 0), .ref (v.1 1), .ref (v.1 2), .ref (v.1 3), .int 0, .ref (v.1 4), .int 0, .int 0, .int 0, .int 0, .int 0, .int 0, .int (-1), .ref (v.1 5), .int 0, .int 0, .int 0, .int 0, .int 0, .int 0, .ref (v.1 6), .ref (v.1 7), .ref (v.1 8), .ref (v.1 9), .int 0, .int 0, .ref (v.1 10), .int 0, .ref (v.1 11), .int 0, .ref (v.1 12), .ref (v.1 13), .ref (v.1 14), .ref (v.1 15)])), ((v.1 0), .inl (cA 1, 122, .inl (fun _ => 0)))]) [0, 14, 87, 88] (by decide) rfl
  refine lv_aload_n hx hb dL_law_1490 rfl (lv_at hl 2 rfl) ?_
  refine lv_aload_n hx hb dL_law_1491 rfl (lv_at hl 3 rfl) ?_
  refine lv_iload_n hx hb dL_law_1492 rfl (lv_at hl 0 rfl) ?_
  refine lv_iconst (v := 1) hx hb dL_law_1493 (by decide) ?_
  refine lv_iadd hx hb dL_law_1494 ?_
  refine lv_topi (fun x_1 ex_1 => ?_)
  obtain rfl : x_1 = 1 := ex_1.trans (by decide)
  refine va_sld hx hb hX hbl hbA hS (L := 6) (by unfold vp_in; decide) dL_law_1495 ?_
  refine W.eq (g2 := F0 m 1496 ls [.int (xs 1), .ref qx]) rfl ?_
  refine cpVi (rest := []) ⟨hx, hb, hml, hown, hts⟩ hKN (hP.sub (ws' := [(qx, .inr (11, [.ref (u.1 0), .ref (u.1 2), .ref (u.1 13), .ref (u.1 22), .ref (u.1 26), .ref (u.1 69), .ref (u.1 73), .ref (u.1 74), .ref (u.1 77), .ref (u.1 79), .ref (u.1 83)])), ((u.1 13), .inr (3, [.int 0, .int 0, .int 0, .int 0, .int 0, .int 0, .int 0, .int 0, .ref (u.1 14), .ref (u.1 15), .ref (u.1 16), .ref (u.1 17), .ref (u.1 18), .ref (u.1 19), .ref (u.1 20), .ref (u.1 21)]))]) [0, 1] rfl) (k_X11_fits l D cA qx (u.1 0) (u.1 2) (u.1 13) (u.1 22) (u.1 26) (u.1 69) (u.1 73) (u.1 74) (u.1 77) (u.1 79) (u.1 83) (u.1 14) (u.1 15) (u.1 16) (u.1 17) (u.1 18) (u.1 19) (u.1 20) (u.1 21) (xs 1)) (tb_V tw_1175 tw_1176 tw_1177 tw_101 tw_1178) hdX11_fits ⟨rfl, rfl, Nat.le_of_ble_eq_true rfl, Nat.le_of_ble_eq_true rfl⟩ ⟨Nat.le_of_ble_eq_true rfl, Nat.le_of_ble_eq_true rfl⟩ rfl rfl rfl hl.1 rfl (Nat.le_of_ble_eq_true rfl) dL_law_1496 (fun r_2 hr_2 => ?_)
  obtain rfl : r_2 = (-2) := hr_2
  refine lv_aload_n hx hb dL_law_1499 rfl (lv_at hl 1 rfl) ?_
  refine lv_aload_n hx hb dL_law_1500 rfl (lv_at hl 3 rfl) ?_
  refine lv_iload_n hx hb dL_law_1501 rfl (lv_at hl 0 rfl) ?_
  refine lv_iconst (v := 1) hx hb dL_law_1502 (by decide) ?_
  refine lv_iadd hx hb dL_law_1503 ?_
  refine lv_topi (fun x_3 ex_3 => ?_)
  obtain rfl : x_3 = 1 := ex_3.trans (by decide)
  refine va_sld hx hb hX hbl hbA hS (L := 6) (by unfold vp_in; decide) dL_law_1504 ?_
  refine W.eq (g2 := F0 m 1505 ls [.int (xs 1), .ref qm, .int (-2)]) rfl ?_
  refine cpVi (rest := [.int (-2)]) ⟨hx, hb, hml, hown, hts⟩ hKN (hP.sub (ws' := [(qm, .inr (12, [.int 0, .ref (v.1 0), .ref (v.1 1), .ref (v.1 2), .ref (v.1 3), .int 0, .ref (v.1 4), .int 0, .int 0, .int 0, .int 0, .int 0, .int 0, .int (-1), .ref (v.1 5), .int 0, .int 0, .int 0, .int 0, .int 0, .int 0, .ref (v.1 6), .ref (v.1 7), .ref (v.1 8), .ref (v.1 9), .int 0, .int 0, .ref (v.1 10), .int 0, .ref (v.1 11), .int 0, .ref (v.1 12), .ref (v.1 13), .ref (v.1 14), .ref (v.1 15)])), ((v.1 0), .inl (cA 1, 122, .inl (fun _ => 0)))]) [2, 3] rfl) (k_X12_fits l D cA qm (v.1 0) (v.1 1) (v.1 2) (v.1 3) (v.1 4) (v.1 5) (v.1 6) (v.1 7) (v.1 8) (v.1 9) (v.1 10) (v.1 11) (v.1 12) (v.1 13) (v.1 14) (v.1 15) (xs 1)) (tb_V tw_2011 tw_2012 tw_2013 tw_114 tw_2014) hdX12_fits ⟨rfl, rfl, Nat.le_of_ble_eq_true rfl, Nat.le_of_ble_eq_true rfl⟩ ⟨Nat.le_of_ble_eq_true rfl, Nat.le_of_ble_eq_true rfl⟩ rfl rfl rfl hl.1 rfl (Nat.le_of_ble_eq_true rfl) dL_law_1505 (fun r_4 hr_4 => ?_)
  obtain rfl : r_4 = (-2) := hr_4
  refine lv_icmp_eq (tgt := 2271) hx hb dL_law_1508 (by decide) (fun c_5 => ?_) (fun c_5 => absurd (by decide) c_5)
  exact lawEnd l C0 hS (Nat.le_of_ble_eq_true rfl) (Nat.le_of_ble_eq_true rfl) (lv_sub hl [0, 1, 2, 3] rfl)
set_option maxHeartbeats 4000000 in
set_option maxRecDepth 100000 in
theorem law_c51 {p : Program} {e : Env} {s : State} {m : MethodId} {below : List Frame} {meth : Method} {c : Code} (l : Launch) {b : Nat} {xs : Nat → Int32} (C0 : lw_At p s m meth c b 6 xs) (D : va_G) (cA : Nat → ClassId) (hKN : KN D cA s) {H : Heap} {locs : List Loc} {ls : Array Slot} (qx qm : Nat) (u v : SU) (hP : va_P D vwCl (wXM cA qx qm u v) H) (hD : va_D (fun q : Nat => s.heap.size ≤ q) (wXM cA qx qm u v)) (hS : va_S (fun q : Nat => s.heap.size ≤ q) s.heap H locs) (hl : lv_has ls 4 [(3, .int 0), (2, .ref qm), (1, .ref qx), (0, .ref b)]) : W p l e room_1 s m #[Value.ref b] below meth c H locs 104 9712 (lw_Z below #[Value.ref b] s) (F0 m 1513 ls []) := by
  obtain ⟨hx, hb, hr, hml, hown, hts0, hX, hbl, hlocks, hgv⟩ := id C0
  have hts : ∀ w ∈ TB, w.before _ s = true := fun w h => hts0 w (List.mem_filter.mp h).1
  have hb : c.code = cL_law := hb
  have hown : s.vm.findClass "WristTreatyLaw" = some m.cls := hown
  have hA : ∀ q : Nat, s.heap.size ≤ q → (fun q : Nat => s.heap.size ≤ q) q := fun _ h => h
  have hbA : ¬ (fun q : Nat => s.heap.size ≤ q) b := Nat.not_le.mpr hbl
  have hP := hP.sub (ws' := [(qx, .inr (11, [.ref (u.1 0), .ref (u.1 2), .ref (u.1 13), .ref (u.1 22), .ref (u.1 26), .ref (u.1 69), .ref (u.1 73), .ref (u.1 74), .ref (u.1 77), .ref (u.1 79), .ref (u.1 83)])), ((u.1 13), .inr (3, [.int 0, .int 0, .int 0, .int 0, .int 0, .int 0, .int 0, .int 0, .ref (u.1 14), .ref (u.1 15), .ref (u.1 16), .ref (u.1 17), .ref (u.1 18), .ref (u.1 19), .ref (u.1 20), .ref (u.1 21)])), (qm, .inr (12, [.int 0, .ref (v.1 0), .ref (v.1 1), .ref (v.1 2), .ref (v.1 3), .int 0, .ref (v.1 4), .int 0, .int 0, .int 0, .int 0, .int 0, .int 0, .int (-1), .ref (v.1 5), .int 0, .int 0, .int 0, .int 0, .int 0, .int 0, .ref (v.1 6), .ref (v.1 7), .ref (v.1 8), .ref (v.1 9), .int 0, .int 0, .ref (v.1 10), .int 0, .ref (v.1 11), .int 0, .ref (v.1 12), .ref (v.1 13), .ref (v.1 14), .ref (v.1 15)])), ((v.1 0), .inl (cA 1, 122, .inl (fun _ => 0)))]) [0, 14, 87, 88] rfl
  have hD := hD.sub (ws' := [(qx, .inr (11, [.ref (u.1 0), .ref (u.1 2), .ref (u.1 13), .ref (u.1 22), .ref (u.1 26), .ref (u.1 69), .ref (u.1 73), .ref (u.1 74), .ref (u.1 77), .ref (u.1 79), .ref (u.1 83)])), ((u.1 13), .inr (3, [.int 0, .int 0, .int 0, .int 0, .int 0, .int 0, .int 0, .int 0, .ref (u.1 14), .ref (u.1 15), .ref (u.1 16), .ref (u.1 17), .ref (u.1 18), .ref (u.1 19), .ref (u.1 20), .ref (u.1 21)])), (qm, .inr (12, [.int 0, .ref (v.1 0), .ref (v.1 1), .ref (v.1 2), .ref (v.1 3), .int 0, .ref (v.1 4), .int 0, .int 0, .int 0, .int 0, .int 0, .int 0, .int (-1), .ref (v.1 5), .int 0, .int 0, .int 0, .int 0, .int 0, .int 0, .ref (v.1 6), .ref (v.1 7), .ref (v.1 8), .ref (v.1 9), .int 0, .int 0, .ref (v.1 10), .int 0, .ref (v.1 11), .int 0, .ref (v.1 12), .ref (v.1 13), .ref (v.1 14), .ref (v.1 15)])), ((v.1 0), .inl (cA 1, 122, .inl (fun _ => 0)))]) [0, 14, 87, 88] (by decide) rfl
  refine lv_aload_n hx hb dL_law_1513 rfl (lv_at hl 2 rfl) ?_
  refine lv_aload_n hx hb dL_law_1514 rfl (lv_at hl 3 rfl) ?_
  refine lv_iload_n hx hb dL_law_1515 rfl (lv_at hl 0 rfl) ?_
  refine lv_iconst (v := 1) hx hb dL_law_1516 (by decide) ?_
  refine lv_iadd hx hb dL_law_1517 ?_
  refine lv_topi (fun x_1 ex_1 => ?_)
  obtain rfl : x_1 = 1 := ex_1.trans (by decide)
  refine va_sld hx hb hX hbl hbA hS (L := 6) (by unfold vp_in; decide) dL_law_1518 ?_
  refine W.eq (g2 := F0 m 1519 ls [.int (xs 1), .ref qx]) rfl ?_
  refine cpVi (rest := []) ⟨hx, hb, hml, hown, hts⟩ hKN (hP.sub (ws' := [(qx, .inr (11, [.ref (u.1 0), .ref (u.1 2), .ref (u.1 13), .ref (u.1 22), .ref (u.1 26), .ref (u.1 69), .ref (u.1 73), .ref (u.1 74), .ref (u.1 77), .ref (u.1 79), .ref (u.1 83)])), ((u.1 13), .inr (3, [.int 0, .int 0, .int 0, .int 0, .int 0, .int 0, .int 0, .int 0, .ref (u.1 14), .ref (u.1 15), .ref (u.1 16), .ref (u.1 17), .ref (u.1 18), .ref (u.1 19), .ref (u.1 20), .ref (u.1 21)]))]) [0, 1] rfl) (k_X11_tired l D cA qx (u.1 0) (u.1 2) (u.1 13) (u.1 22) (u.1 26) (u.1 69) (u.1 73) (u.1 74) (u.1 77) (u.1 79) (u.1 83) (u.1 14) (u.1 15) (u.1 16) (u.1 17) (u.1 18) (u.1 19) (u.1 20) (u.1 21) (xs 1)) (tb_V tw_1211 tw_1212 tw_1213 tw_101 tw_1214) hdX11_tired ⟨rfl, rfl, Nat.le_of_ble_eq_true rfl, Nat.le_of_ble_eq_true rfl⟩ ⟨Nat.le_of_ble_eq_true rfl, Nat.le_of_ble_eq_true rfl⟩ rfl rfl rfl hl.1 rfl (Nat.le_of_ble_eq_true rfl) dL_law_1519 (fun r_2 hr_2 => ?_)
  obtain rfl : r_2 = (-2) := hr_2
  refine lv_aload_n hx hb dL_law_1522 rfl (lv_at hl 1 rfl) ?_
  refine lv_aload_n hx hb dL_law_1523 rfl (lv_at hl 3 rfl) ?_
  refine lv_iload_n hx hb dL_law_1524 rfl (lv_at hl 0 rfl) ?_
  refine lv_iconst (v := 1) hx hb dL_law_1525 (by decide) ?_
  refine lv_iadd hx hb dL_law_1526 ?_
  refine lv_topi (fun x_3 ex_3 => ?_)
  obtain rfl : x_3 = 1 := ex_3.trans (by decide)
  refine va_sld hx hb hX hbl hbA hS (L := 6) (by unfold vp_in; decide) dL_law_1527 ?_
  refine W.eq (g2 := F0 m 1528 ls [.int (xs 1), .ref qm, .int (-2)]) rfl ?_
  refine cpVi (rest := [.int (-2)]) ⟨hx, hb, hml, hown, hts⟩ hKN (hP.sub (ws' := [(qm, .inr (12, [.int 0, .ref (v.1 0), .ref (v.1 1), .ref (v.1 2), .ref (v.1 3), .int 0, .ref (v.1 4), .int 0, .int 0, .int 0, .int 0, .int 0, .int 0, .int (-1), .ref (v.1 5), .int 0, .int 0, .int 0, .int 0, .int 0, .int 0, .ref (v.1 6), .ref (v.1 7), .ref (v.1 8), .ref (v.1 9), .int 0, .int 0, .ref (v.1 10), .int 0, .ref (v.1 11), .int 0, .ref (v.1 12), .ref (v.1 13), .ref (v.1 14), .ref (v.1 15)])), ((v.1 0), .inl (cA 1, 122, .inl (fun _ => 0)))]) [2, 3] rfl) (k_X12_tired l D cA qm (v.1 0) (v.1 1) (v.1 2) (v.1 3) (v.1 4) (v.1 5) (v.1 6) (v.1 7) (v.1 8) (v.1 9) (v.1 10) (v.1 11) (v.1 12) (v.1 13) (v.1 14) (v.1 15) (xs 1)) (tb_V tw_2023 tw_2024 tw_2025 tw_114 tw_2026) hdX12_tired ⟨rfl, rfl, Nat.le_of_ble_eq_true rfl, Nat.le_of_ble_eq_true rfl⟩ ⟨Nat.le_of_ble_eq_true rfl, Nat.le_of_ble_eq_true rfl⟩ rfl rfl rfl hl.1 rfl (Nat.le_of_ble_eq_true rfl) dL_law_1528 (fun r_4 hr_4 => ?_)
  obtain rfl : r_4 = (-2) := hr_4
  refine lv_icmp_eq (tgt := 2271) hx hb dL_law_1531 (by decide) (fun c_5 => ?_) (fun c_5 => absurd (by decide) c_5)
  exact lawEnd l C0 hS (Nat.le_of_ble_eq_true rfl) (Nat.le_of_ble_eq_true rfl) (lv_sub hl [0, 1, 2, 3] rfl)
set_option maxHeartbeats 4000000 in
set_option maxRecDepth 100000 in
theorem law_c52 {p : Program} {e : Env} {s : State} {m : MethodId} {below : List Frame} {meth : Method} {c : Code} (l : Launch) {b : Nat} {xs : Nat → Int32} (C0 : lw_At p s m meth c b 6 xs) (D : va_G) (cA : Nat → ClassId) (hKN : KN D cA s) {H : Heap} {locs : List Loc} {ls : Array Slot} (qx qm : Nat) (u v : SU) (hP : va_P D vwCl (wXM cA qx qm u v) H) (hD : va_D (fun q : Nat => s.heap.size ≤ q) (wXM cA qx qm u v)) (hS : va_S (fun q : Nat => s.heap.size ≤ q) s.heap H locs) (hl : lv_has ls 4 [(3, .int 0), (2, .ref qm), (1, .ref qx), (0, .ref b)]) : W p l e room_1 s m #[Value.ref b] below meth c H locs 104 9712 (lw_Z below #[Value.ref b] s) (F0 m 1536 ls []) := by
  obtain ⟨hx, hb, hr, hml, hown, hts0, hX, hbl, hlocks, hgv⟩ := id C0
  have hts : ∀ w ∈ TB, w.before _ s = true := fun w h => hts0 w (List.mem_filter.mp h).1
  have hb : c.code = cL_law := hb
  have hown : s.vm.findClass "WristTreatyLaw" = some m.cls := hown
  have hA : ∀ q : Nat, s.heap.size ≤ q → (fun q : Nat => s.heap.size ≤ q) q := fun _ h => h
  have hbA : ¬ (fun q : Nat => s.heap.size ≤ q) b := Nat.not_le.mpr hbl
  have hP := hP.sub (ws' := [(qx, .inr (11, [.ref (u.1 0), .ref (u.1 2), .ref (u.1 13), .ref (u.1 22), .ref (u.1 26), .ref (u.1 69), .ref (u.1 73), .ref (u.1 74), .ref (u.1 77), .ref (u.1 79), .ref (u.1 83)])), ((u.1 13), .inr (3, [.int 0, .int 0, .int 0, .int 0, .int 0, .int 0, .int 0, .int 0, .ref (u.1 14), .ref (u.1 15), .ref (u.1 16), .ref (u.1 17), .ref (u.1 18), .ref (u.1 19), .ref (u.1 20), .ref (u.1 21)])), (qm, .inr (12, [.int 0, .ref (v.1 0), .ref (v.1 1), .ref (v.1 2), .ref (v.1 3), .int 0, .ref (v.1 4), .int 0, .int 0, .int 0, .int 0, .int 0, .int 0, .int (-1), .ref (v.1 5), .int 0, .int 0, .int 0, .int 0, .int 0, .int 0, .ref (v.1 6), .ref (v.1 7), .ref (v.1 8), .ref (v.1 9), .int 0, .int 0, .ref (v.1 10), .int 0, .ref (v.1 11), .int 0, .ref (v.1 12), .ref (v.1 13), .ref (v.1 14), .ref (v.1 15)])), ((v.1 0), .inl (cA 1, 122, .inl (fun _ => 0)))]) [0, 14, 87, 88] rfl
  have hD := hD.sub (ws' := [(qx, .inr (11, [.ref (u.1 0), .ref (u.1 2), .ref (u.1 13), .ref (u.1 22), .ref (u.1 26), .ref (u.1 69), .ref (u.1 73), .ref (u.1 74), .ref (u.1 77), .ref (u.1 79), .ref (u.1 83)])), ((u.1 13), .inr (3, [.int 0, .int 0, .int 0, .int 0, .int 0, .int 0, .int 0, .int 0, .ref (u.1 14), .ref (u.1 15), .ref (u.1 16), .ref (u.1 17), .ref (u.1 18), .ref (u.1 19), .ref (u.1 20), .ref (u.1 21)])), (qm, .inr (12, [.int 0, .ref (v.1 0), .ref (v.1 1), .ref (v.1 2), .ref (v.1 3), .int 0, .ref (v.1 4), .int 0, .int 0, .int 0, .int 0, .int 0, .int 0, .int (-1), .ref (v.1 5), .int 0, .int 0, .int 0, .int 0, .int 0, .int 0, .ref (v.1 6), .ref (v.1 7), .ref (v.1 8), .ref (v.1 9), .int 0, .int 0, .ref (v.1 10), .int 0, .ref (v.1 11), .int 0, .ref (v.1 12), .ref (v.1 13), .ref (v.1 14), .ref (v.1 15)])), ((v.1 0), .inl (cA 1, 122, .inl (fun _ => 0)))]) [0, 14, 87, 88] (by decide) rfl
  refine lv_aload_n hx hb dL_law_1536 rfl (lv_at hl 2 rfl) ?_
  refine lv_aload_n hx hb dL_law_1537 rfl (lv_at hl 3 rfl) ?_
  refine lv_iload_n hx hb dL_law_1538 rfl (lv_at hl 0 rfl) ?_
  refine lv_iconst (v := 1) hx hb dL_law_1539 (by decide) ?_
  refine lv_iadd hx hb dL_law_1540 ?_
  refine lv_topi (fun x_1 ex_1 => ?_)
  obtain rfl : x_1 = 1 := ex_1.trans (by decide)
  refine va_sld hx hb hX hbl hbA hS (L := 6) (by unfold vp_in; decide) dL_law_1541 ?_
  refine W.eq (g2 := F0 m 1542 ls [.int (xs 1), .ref qx]) rfl ?_
  refine lv_aload_n hx hb dL_law_1542 rfl (lv_at hl 3 rfl) ?_
  refine lv_iload_n hx hb dL_law_1543 rfl (lv_at hl 0 rfl) ?_
  refine lv_iconst (v := 2) hx hb dL_law_1544 (by decide) ?_
  refine lv_iadd hx hb dL_law_1545 ?_
  refine lv_topi (fun x_2 ex_2 => ?_)
  obtain rfl : x_2 = 2 := ex_2.trans (by decide)
  refine va_sld hx hb hX hbl hbA hS (L := 6) (by unfold vp_in; decide) dL_law_1546 ?_
  refine W.eq (g2 := F0 m 1547 ls [.int (xs 2), .int (xs 1), .ref qx]) rfl ?_
  refine cpVi (rest := []) ⟨hx, hb, hml, hown, hts⟩ hKN (hP.sub (ws' := [(qx, .inr (11, [.ref (u.1 0), .ref (u.1 2), .ref (u.1 13), .ref (u.1 22), .ref (u.1 26), .ref (u.1 69), .ref (u.1 73), .ref (u.1 74), .ref (u.1 77), .ref (u.1 79), .ref (u.1 83)])), ((u.1 13), .inr (3, [.int 0, .int 0, .int 0, .int 0, .int 0, .int 0, .int 0, .int 0, .ref (u.1 14), .ref (u.1 15), .ref (u.1 16), .ref (u.1 17), .ref (u.1 18), .ref (u.1 19), .ref (u.1 20), .ref (u.1 21)]))]) [0, 1] rfl) (k_X11_by l D cA qx (u.1 0) (u.1 2) (u.1 13) (u.1 22) (u.1 26) (u.1 69) (u.1 73) (u.1 74) (u.1 77) (u.1 79) (u.1 83) (u.1 14) (u.1 15) (u.1 16) (u.1 17) (u.1 18) (u.1 19) (u.1 20) (u.1 21) (xs 1) (xs 2)) (tb_V tw_1220 tw_1221 tw_1222 tw_101 tw_1223) hdX11_by ⟨rfl, rfl, Nat.le_of_ble_eq_true rfl, Nat.le_of_ble_eq_true rfl⟩ ⟨Nat.le_of_ble_eq_true rfl, Nat.le_of_ble_eq_true rfl⟩ rfl rfl rfl hl.1 rfl (Nat.le_of_ble_eq_true rfl) dL_law_1547 (fun r_3 hr_3 => ?_)
  obtain rfl : r_3 = (-2) := hr_3
  refine lv_aload_n hx hb dL_law_1550 rfl (lv_at hl 1 rfl) ?_
  refine lv_aload_n hx hb dL_law_1551 rfl (lv_at hl 3 rfl) ?_
  refine lv_iload_n hx hb dL_law_1552 rfl (lv_at hl 0 rfl) ?_
  refine lv_iconst (v := 1) hx hb dL_law_1553 (by decide) ?_
  refine lv_iadd hx hb dL_law_1554 ?_
  refine lv_topi (fun x_4 ex_4 => ?_)
  obtain rfl : x_4 = 1 := ex_4.trans (by decide)
  refine va_sld hx hb hX hbl hbA hS (L := 6) (by unfold vp_in; decide) dL_law_1555 ?_
  refine W.eq (g2 := F0 m 1556 ls [.int (xs 1), .ref qm, .int (-2)]) rfl ?_
  refine lv_aload_n hx hb dL_law_1556 rfl (lv_at hl 3 rfl) ?_
  refine lv_iload_n hx hb dL_law_1557 rfl (lv_at hl 0 rfl) ?_
  refine lv_iconst (v := 2) hx hb dL_law_1558 (by decide) ?_
  refine lv_iadd hx hb dL_law_1559 ?_
  refine lv_topi (fun x_5 ex_5 => ?_)
  obtain rfl : x_5 = 2 := ex_5.trans (by decide)
  refine va_sld hx hb hX hbl hbA hS (L := 6) (by unfold vp_in; decide) dL_law_1560 ?_
  refine W.eq (g2 := F0 m 1561 ls [.int (xs 2), .int (xs 1), .ref qm, .int (-2)]) rfl ?_
  refine cpVi (rest := [.int (-2)]) ⟨hx, hb, hml, hown, hts⟩ hKN (hP.sub (ws' := [(qm, .inr (12, [.int 0, .ref (v.1 0), .ref (v.1 1), .ref (v.1 2), .ref (v.1 3), .int 0, .ref (v.1 4), .int 0, .int 0, .int 0, .int 0, .int 0, .int 0, .int (-1), .ref (v.1 5), .int 0, .int 0, .int 0, .int 0, .int 0, .int 0, .ref (v.1 6), .ref (v.1 7), .ref (v.1 8), .ref (v.1 9), .int 0, .int 0, .ref (v.1 10), .int 0, .ref (v.1 11), .int 0, .ref (v.1 12), .ref (v.1 13), .ref (v.1 14), .ref (v.1 15)])), ((v.1 0), .inl (cA 1, 122, .inl (fun _ => 0)))]) [2, 3] rfl) (k_X12_by l D cA qm (v.1 0) (v.1 1) (v.1 2) (v.1 3) (v.1 4) (v.1 5) (v.1 6) (v.1 7) (v.1 8) (v.1 9) (v.1 10) (v.1 11) (v.1 12) (v.1 13) (v.1 14) (v.1 15) (xs 1) (xs 2)) (tb_V tw_2027 tw_2028 tw_2029 tw_114 tw_2030) hdX12_by ⟨rfl, rfl, Nat.le_of_ble_eq_true rfl, Nat.le_of_ble_eq_true rfl⟩ ⟨Nat.le_of_ble_eq_true rfl, Nat.le_of_ble_eq_true rfl⟩ rfl rfl rfl hl.1 rfl (Nat.le_of_ble_eq_true rfl) dL_law_1561 (fun r_6 hr_6 => ?_)
  obtain rfl : r_6 = (-2) := hr_6
  refine lv_icmp_eq (tgt := 2271) hx hb dL_law_1564 (by decide) (fun c_7 => ?_) (fun c_7 => absurd (by decide) c_7)
  exact lawEnd l C0 hS (Nat.le_of_ble_eq_true rfl) (Nat.le_of_ble_eq_true rfl) (lv_sub hl [0, 1, 2, 3] rfl)
set_option maxHeartbeats 4000000 in
set_option maxRecDepth 100000 in
theorem law_c53 {p : Program} {e : Env} {s : State} {m : MethodId} {below : List Frame} {meth : Method} {c : Code} (l : Launch) {b : Nat} {xs : Nat → Int32} (C0 : lw_At p s m meth c b 6 xs) (D : va_G) (cA : Nat → ClassId) (hKN : KN D cA s) {H : Heap} {locs : List Loc} {ls : Array Slot} (qx qm : Nat) (u v : SU) (hP : va_P D vwCl (wXM cA qx qm u v) H) (hD : va_D (fun q : Nat => s.heap.size ≤ q) (wXM cA qx qm u v)) (hS : va_S (fun q : Nat => s.heap.size ≤ q) s.heap H locs) (hl : lv_has ls 4 [(3, .int 0), (2, .ref qm), (1, .ref qx), (0, .ref b)]) : W p l e room_1 s m #[Value.ref b] below meth c H locs 104 9712 (lw_Z below #[Value.ref b] s) (F0 m 1569 ls []) := by
  obtain ⟨hx, hb, hr, hml, hown, hts0, hX, hbl, hlocks, hgv⟩ := id C0
  have hts : ∀ w ∈ TB, w.before _ s = true := fun w h => hts0 w (List.mem_filter.mp h).1
  have hb : c.code = cL_law := hb
  have hown : s.vm.findClass "WristTreatyLaw" = some m.cls := hown
  have hA : ∀ q : Nat, s.heap.size ≤ q → (fun q : Nat => s.heap.size ≤ q) q := fun _ h => h
  have hbA : ¬ (fun q : Nat => s.heap.size ≤ q) b := Nat.not_le.mpr hbl
  have hP := hP.sub (ws' := [(qx, .inr (11, [.ref (u.1 0), .ref (u.1 2), .ref (u.1 13), .ref (u.1 22), .ref (u.1 26), .ref (u.1 69), .ref (u.1 73), .ref (u.1 74), .ref (u.1 77), .ref (u.1 79), .ref (u.1 83)])), ((u.1 13), .inr (3, [.int 0, .int 0, .int 0, .int 0, .int 0, .int 0, .int 0, .int 0, .ref (u.1 14), .ref (u.1 15), .ref (u.1 16), .ref (u.1 17), .ref (u.1 18), .ref (u.1 19), .ref (u.1 20), .ref (u.1 21)])), (qm, .inr (12, [.int 0, .ref (v.1 0), .ref (v.1 1), .ref (v.1 2), .ref (v.1 3), .int 0, .ref (v.1 4), .int 0, .int 0, .int 0, .int 0, .int 0, .int 0, .int (-1), .ref (v.1 5), .int 0, .int 0, .int 0, .int 0, .int 0, .int 0, .ref (v.1 6), .ref (v.1 7), .ref (v.1 8), .ref (v.1 9), .int 0, .int 0, .ref (v.1 10), .int 0, .ref (v.1 11), .int 0, .ref (v.1 12), .ref (v.1 13), .ref (v.1 14), .ref (v.1 15)])), ((v.1 0), .inl (cA 1, 122, .inl (fun _ => 0)))]) [0, 14, 87, 88] rfl
  have hD := hD.sub (ws' := [(qx, .inr (11, [.ref (u.1 0), .ref (u.1 2), .ref (u.1 13), .ref (u.1 22), .ref (u.1 26), .ref (u.1 69), .ref (u.1 73), .ref (u.1 74), .ref (u.1 77), .ref (u.1 79), .ref (u.1 83)])), ((u.1 13), .inr (3, [.int 0, .int 0, .int 0, .int 0, .int 0, .int 0, .int 0, .int 0, .ref (u.1 14), .ref (u.1 15), .ref (u.1 16), .ref (u.1 17), .ref (u.1 18), .ref (u.1 19), .ref (u.1 20), .ref (u.1 21)])), (qm, .inr (12, [.int 0, .ref (v.1 0), .ref (v.1 1), .ref (v.1 2), .ref (v.1 3), .int 0, .ref (v.1 4), .int 0, .int 0, .int 0, .int 0, .int 0, .int 0, .int (-1), .ref (v.1 5), .int 0, .int 0, .int 0, .int 0, .int 0, .int 0, .ref (v.1 6), .ref (v.1 7), .ref (v.1 8), .ref (v.1 9), .int 0, .int 0, .ref (v.1 10), .int 0, .ref (v.1 11), .int 0, .ref (v.1 12), .ref (v.1 13), .ref (v.1 14), .ref (v.1 15)])), ((v.1 0), .inl (cA 1, 122, .inl (fun _ => 0)))]) [0, 14, 87, 88] (by decide) rfl
  refine lv_aload_n hx hb dL_law_1569 rfl (lv_at hl 2 rfl) ?_
  refine lv_aload_n hx hb dL_law_1570 rfl (lv_at hl 3 rfl) ?_
  refine lv_iload_n hx hb dL_law_1571 rfl (lv_at hl 0 rfl) ?_
  refine lv_iconst (v := 1) hx hb dL_law_1572 (by decide) ?_
  refine lv_iadd hx hb dL_law_1573 ?_
  refine lv_topi (fun x_1 ex_1 => ?_)
  obtain rfl : x_1 = 1 := ex_1.trans (by decide)
  refine va_sld hx hb hX hbl hbA hS (L := 6) (by unfold vp_in; decide) dL_law_1574 ?_
  refine W.eq (g2 := F0 m 1575 ls [.int (xs 1), .ref qx]) rfl ?_
  refine cpVi (rest := []) ⟨hx, hb, hml, hown, hts⟩ hKN (hP.sub (ws' := [(qx, .inr (11, [.ref (u.1 0), .ref (u.1 2), .ref (u.1 13), .ref (u.1 22), .ref (u.1 26), .ref (u.1 69), .ref (u.1 73), .ref (u.1 74), .ref (u.1 77), .ref (u.1 79), .ref (u.1 83)])), ((u.1 13), .inr (3, [.int 0, .int 0, .int 0, .int 0, .int 0, .int 0, .int 0, .int 0, .ref (u.1 14), .ref (u.1 15), .ref (u.1 16), .ref (u.1 17), .ref (u.1 18), .ref (u.1 19), .ref (u.1 20), .ref (u.1 21)]))]) [0, 1] rfl) (k_X11_ask l D cA qx (u.1 0) (u.1 2) (u.1 13) (u.1 22) (u.1 26) (u.1 69) (u.1 73) (u.1 74) (u.1 77) (u.1 79) (u.1 83) (u.1 14) (u.1 15) (u.1 16) (u.1 17) (u.1 18) (u.1 19) (u.1 20) (u.1 21) (xs 1)) (tb_V tw_1224 tw_1225 tw_1226 tw_101 tw_1227) hdX11_ask ⟨rfl, rfl, Nat.le_of_ble_eq_true rfl, Nat.le_of_ble_eq_true rfl⟩ ⟨Nat.le_of_ble_eq_true rfl, Nat.le_of_ble_eq_true rfl⟩ rfl rfl rfl hl.1 rfl (Nat.le_of_ble_eq_true rfl) dL_law_1575 (fun r_2 hr_2 => ?_)
  obtain rfl : r_2 = (-2) := hr_2
  refine lv_aload_n hx hb dL_law_1578 rfl (lv_at hl 1 rfl) ?_
  refine lv_aload_n hx hb dL_law_1579 rfl (lv_at hl 3 rfl) ?_
  refine lv_iload_n hx hb dL_law_1580 rfl (lv_at hl 0 rfl) ?_
  refine lv_iconst (v := 1) hx hb dL_law_1581 (by decide) ?_
  refine lv_iadd hx hb dL_law_1582 ?_
  refine lv_topi (fun x_3 ex_3 => ?_)
  obtain rfl : x_3 = 1 := ex_3.trans (by decide)
  refine va_sld hx hb hX hbl hbA hS (L := 6) (by unfold vp_in; decide) dL_law_1583 ?_
  refine W.eq (g2 := F0 m 1584 ls [.int (xs 1), .ref qm, .int (-2)]) rfl ?_
  refine cpVi (rest := [.int (-2)]) ⟨hx, hb, hml, hown, hts⟩ hKN (hP.sub (ws' := [(qm, .inr (12, [.int 0, .ref (v.1 0), .ref (v.1 1), .ref (v.1 2), .ref (v.1 3), .int 0, .ref (v.1 4), .int 0, .int 0, .int 0, .int 0, .int 0, .int 0, .int (-1), .ref (v.1 5), .int 0, .int 0, .int 0, .int 0, .int 0, .int 0, .ref (v.1 6), .ref (v.1 7), .ref (v.1 8), .ref (v.1 9), .int 0, .int 0, .ref (v.1 10), .int 0, .ref (v.1 11), .int 0, .ref (v.1 12), .ref (v.1 13), .ref (v.1 14), .ref (v.1 15)])), ((v.1 0), .inl (cA 1, 122, .inl (fun _ => 0)))]) [2, 3] rfl) (k_X12_ask l D cA qm (v.1 0) (v.1 1) (v.1 2) (v.1 3) (v.1 4) (v.1 5) (v.1 6) (v.1 7) (v.1 8) (v.1 9) (v.1 10) (v.1 11) (v.1 12) (v.1 13) (v.1 14) (v.1 15) (xs 1)) (tb_V tw_2031 tw_2032 tw_2033 tw_114 tw_2034) hdX12_ask ⟨rfl, rfl, Nat.le_of_ble_eq_true rfl, Nat.le_of_ble_eq_true rfl⟩ ⟨Nat.le_of_ble_eq_true rfl, Nat.le_of_ble_eq_true rfl⟩ rfl rfl rfl hl.1 rfl (Nat.le_of_ble_eq_true rfl) dL_law_1584 (fun r_4 hr_4 => ?_)
  obtain rfl : r_4 = (-2) := hr_4
  refine lv_icmp_eq (tgt := 2271) hx hb dL_law_1587 (by decide) (fun c_5 => ?_) (fun c_5 => absurd (by decide) c_5)
  exact lawEnd l C0 hS (Nat.le_of_ble_eq_true rfl) (Nat.le_of_ble_eq_true rfl) (lv_sub hl [0, 1, 2, 3] rfl)
set_option maxHeartbeats 4000000 in
set_option maxRecDepth 100000 in
theorem law_c54 {p : Program} {e : Env} {s : State} {m : MethodId} {below : List Frame} {meth : Method} {c : Code} (l : Launch) {b : Nat} {xs : Nat → Int32} (C0 : lw_At p s m meth c b 6 xs) (D : va_G) (cA : Nat → ClassId) (hKN : KN D cA s) {H : Heap} {locs : List Loc} {ls : Array Slot} (qx qm : Nat) (u v : SU) (hP : va_P D vwCl (wXM cA qx qm u v) H) (hD : va_D (fun q : Nat => s.heap.size ≤ q) (wXM cA qx qm u v)) (hS : va_S (fun q : Nat => s.heap.size ≤ q) s.heap H locs) (hl : lv_has ls 4 [(3, .int 0), (2, .ref qm), (1, .ref qx), (0, .ref b)]) : W p l e room_1 s m #[Value.ref b] below meth c H locs 104 9712 (lw_Z below #[Value.ref b] s) (F0 m 1592 ls []) := by
  obtain ⟨hx, hb, hr, hml, hown, hts0, hX, hbl, hlocks, hgv⟩ := id C0
  have hts : ∀ w ∈ TB, w.before _ s = true := fun w h => hts0 w (List.mem_filter.mp h).1
  have hb : c.code = cL_law := hb
  have hown : s.vm.findClass "WristTreatyLaw" = some m.cls := hown
  have hA : ∀ q : Nat, s.heap.size ≤ q → (fun q : Nat => s.heap.size ≤ q) q := fun _ h => h
  have hbA : ¬ (fun q : Nat => s.heap.size ≤ q) b := Nat.not_le.mpr hbl
  have hP := hP.sub (ws' := [(qx, .inr (11, [.ref (u.1 0), .ref (u.1 2), .ref (u.1 13), .ref (u.1 22), .ref (u.1 26), .ref (u.1 69), .ref (u.1 73), .ref (u.1 74), .ref (u.1 77), .ref (u.1 79), .ref (u.1 83)])), ((u.1 13), .inr (3, [.int 0, .int 0, .int 0, .int 0, .int 0, .int 0, .int 0, .int 0, .ref (u.1 14), .ref (u.1 15), .ref (u.1 16), .ref (u.1 17), .ref (u.1 18), .ref (u.1 19), .ref (u.1 20), .ref (u.1 21)])), (qm, .inr (12, [.int 0, .ref (v.1 0), .ref (v.1 1), .ref (v.1 2), .ref (v.1 3), .int 0, .ref (v.1 4), .int 0, .int 0, .int 0, .int 0, .int 0, .int 0, .int (-1), .ref (v.1 5), .int 0, .int 0, .int 0, .int 0, .int 0, .int 0, .ref (v.1 6), .ref (v.1 7), .ref (v.1 8), .ref (v.1 9), .int 0, .int 0, .ref (v.1 10), .int 0, .ref (v.1 11), .int 0, .ref (v.1 12), .ref (v.1 13), .ref (v.1 14), .ref (v.1 15)])), ((v.1 0), .inl (cA 1, 122, .inl (fun _ => 0)))]) [0, 14, 87, 88] rfl
  have hD := hD.sub (ws' := [(qx, .inr (11, [.ref (u.1 0), .ref (u.1 2), .ref (u.1 13), .ref (u.1 22), .ref (u.1 26), .ref (u.1 69), .ref (u.1 73), .ref (u.1 74), .ref (u.1 77), .ref (u.1 79), .ref (u.1 83)])), ((u.1 13), .inr (3, [.int 0, .int 0, .int 0, .int 0, .int 0, .int 0, .int 0, .int 0, .ref (u.1 14), .ref (u.1 15), .ref (u.1 16), .ref (u.1 17), .ref (u.1 18), .ref (u.1 19), .ref (u.1 20), .ref (u.1 21)])), (qm, .inr (12, [.int 0, .ref (v.1 0), .ref (v.1 1), .ref (v.1 2), .ref (v.1 3), .int 0, .ref (v.1 4), .int 0, .int 0, .int 0, .int 0, .int 0, .int 0, .int (-1), .ref (v.1 5), .int 0, .int 0, .int 0, .int 0, .int 0, .int 0, .ref (v.1 6), .ref (v.1 7), .ref (v.1 8), .ref (v.1 9), .int 0, .int 0, .ref (v.1 10), .int 0, .ref (v.1 11), .int 0, .ref (v.1 12), .ref (v.1 13), .ref (v.1 14), .ref (v.1 15)])), ((v.1 0), .inl (cA 1, 122, .inl (fun _ => 0)))]) [0, 14, 87, 88] (by decide) rfl
  refine lv_aload_n hx hb dL_law_1592 rfl (lv_at hl 2 rfl) ?_
  refine lv_aload_n hx hb dL_law_1593 rfl (lv_at hl 3 rfl) ?_
  refine lv_iload_n hx hb dL_law_1594 rfl (lv_at hl 0 rfl) ?_
  refine lv_iconst (v := 1) hx hb dL_law_1595 (by decide) ?_
  refine lv_iadd hx hb dL_law_1596 ?_
  refine lv_topi (fun x_1 ex_1 => ?_)
  obtain rfl : x_1 = 1 := ex_1.trans (by decide)
  refine va_sld hx hb hX hbl hbA hS (L := 6) (by unfold vp_in; decide) dL_law_1597 ?_
  refine W.eq (g2 := F0 m 1598 ls [.int (xs 1), .ref qx]) rfl ?_
  refine lv_aload_n hx hb dL_law_1598 rfl (lv_at hl 3 rfl) ?_
  refine lv_iload_n hx hb dL_law_1599 rfl (lv_at hl 0 rfl) ?_
  refine lv_iconst (v := 2) hx hb dL_law_1600 (by decide) ?_
  refine lv_iadd hx hb dL_law_1601 ?_
  refine lv_topi (fun x_2 ex_2 => ?_)
  obtain rfl : x_2 = 2 := ex_2.trans (by decide)
  refine va_sld hx hb hX hbl hbA hS (L := 6) (by unfold vp_in; decide) dL_law_1602 ?_
  refine W.eq (g2 := F0 m 1603 ls [.int (xs 2), .int (xs 1), .ref qx]) rfl ?_
  refine lv_aload_n hx hb dL_law_1603 rfl (lv_at hl 3 rfl) ?_
  refine lv_iload_n hx hb dL_law_1604 rfl (lv_at hl 0 rfl) ?_
  refine lv_iconst (v := 3) hx hb dL_law_1605 (by decide) ?_
  refine lv_iadd hx hb dL_law_1606 ?_
  refine lv_topi (fun x_3 ex_3 => ?_)
  obtain rfl : x_3 = 3 := ex_3.trans (by decide)
  refine va_sld hx hb hX hbl hbA hS (L := 6) (by unfold vp_in; decide) dL_law_1607 ?_
  refine W.eq (g2 := F0 m 1608 ls [.int (xs 3), .int (xs 2), .int (xs 1), .ref qx]) rfl ?_
  refine lv_aload_n hx hb dL_law_1608 rfl (lv_at hl 3 rfl) ?_
  refine lv_iload_n hx hb dL_law_1609 rfl (lv_at hl 0 rfl) ?_
  refine lv_iconst (v := 4) hx hb dL_law_1610 (by decide) ?_
  refine lv_iadd hx hb dL_law_1611 ?_
  refine lv_topi (fun x_4 ex_4 => ?_)
  obtain rfl : x_4 = 4 := ex_4.trans (by decide)
  refine va_sld hx hb hX hbl hbA hS (L := 6) (by unfold vp_in; decide) dL_law_1612 ?_
  refine W.eq (g2 := F0 m 1613 ls [.int (xs 4), .int (xs 3), .int (xs 2), .int (xs 1), .ref qx]) rfl ?_
  refine cpVl (rest := []) ⟨hx, hb, hml, hown, hts⟩ hKN (hP.sub (ws' := [(qx, .inr (11, [.ref (u.1 0), .ref (u.1 2), .ref (u.1 13), .ref (u.1 22), .ref (u.1 26), .ref (u.1 69), .ref (u.1 73), .ref (u.1 74), .ref (u.1 77), .ref (u.1 79), .ref (u.1 83)])), ((u.1 13), .inr (3, [.int 0, .int 0, .int 0, .int 0, .int 0, .int 0, .int 0, .int 0, .ref (u.1 14), .ref (u.1 15), .ref (u.1 16), .ref (u.1 17), .ref (u.1 18), .ref (u.1 19), .ref (u.1 20), .ref (u.1 21)]))]) [0, 1] rfl) (k_X11_chance l D cA qx (u.1 0) (u.1 2) (u.1 13) (u.1 22) (u.1 26) (u.1 69) (u.1 73) (u.1 74) (u.1 77) (u.1 79) (u.1 83) (u.1 14) (u.1 15) (u.1 16) (u.1 17) (u.1 18) (u.1 19) (u.1 20) (u.1 21) (xs 1) (xs 2) (xs 3) (xs 4)) (tb_V tw_1238 tw_1239 tw_1240 tw_101 tw_1241) hdX11_chance ⟨rfl, rfl, Nat.le_of_ble_eq_true rfl, Nat.le_of_ble_eq_true rfl⟩ ⟨Nat.le_of_ble_eq_true rfl, Nat.le_of_ble_eq_true rfl⟩ rfl rfl rfl hl.1 rfl (Nat.le_of_ble_eq_true rfl) dL_law_1613 (fun r_5 hr_5 => ?_)
  obtain rfl : r_5 = (-2) := hr_5
  refine lv_aload_n hx hb dL_law_1616 rfl (lv_at hl 1 rfl) ?_
  refine lv_aload_n hx hb dL_law_1617 rfl (lv_at hl 3 rfl) ?_
  refine lv_iload_n hx hb dL_law_1618 rfl (lv_at hl 0 rfl) ?_
  refine lv_iconst (v := 1) hx hb dL_law_1619 (by decide) ?_
  refine lv_iadd hx hb dL_law_1620 ?_
  refine lv_topi (fun x_6 ex_6 => ?_)
  obtain rfl : x_6 = 1 := ex_6.trans (by decide)
  refine va_sld hx hb hX hbl hbA hS (L := 6) (by unfold vp_in; decide) dL_law_1621 ?_
  refine W.eq (g2 := F0 m 1622 ls [.int (xs 1), .ref qm, .long (-2)]) rfl ?_
  refine lv_aload_n hx hb dL_law_1622 rfl (lv_at hl 3 rfl) ?_
  refine lv_iload_n hx hb dL_law_1623 rfl (lv_at hl 0 rfl) ?_
  refine lv_iconst (v := 2) hx hb dL_law_1624 (by decide) ?_
  refine lv_iadd hx hb dL_law_1625 ?_
  refine lv_topi (fun x_7 ex_7 => ?_)
  obtain rfl : x_7 = 2 := ex_7.trans (by decide)
  refine va_sld hx hb hX hbl hbA hS (L := 6) (by unfold vp_in; decide) dL_law_1626 ?_
  refine W.eq (g2 := F0 m 1627 ls [.int (xs 2), .int (xs 1), .ref qm, .long (-2)]) rfl ?_
  refine lv_aload_n hx hb dL_law_1627 rfl (lv_at hl 3 rfl) ?_
  refine lv_iload_n hx hb dL_law_1628 rfl (lv_at hl 0 rfl) ?_
  refine lv_iconst (v := 3) hx hb dL_law_1629 (by decide) ?_
  refine lv_iadd hx hb dL_law_1630 ?_
  refine lv_topi (fun x_8 ex_8 => ?_)
  obtain rfl : x_8 = 3 := ex_8.trans (by decide)
  refine va_sld hx hb hX hbl hbA hS (L := 6) (by unfold vp_in; decide) dL_law_1631 ?_
  refine W.eq (g2 := F0 m 1632 ls [.int (xs 3), .int (xs 2), .int (xs 1), .ref qm, .long (-2)]) rfl ?_
  refine lv_aload_n hx hb dL_law_1632 rfl (lv_at hl 3 rfl) ?_
  refine lv_iload_n hx hb dL_law_1633 rfl (lv_at hl 0 rfl) ?_
  refine lv_iconst (v := 4) hx hb dL_law_1634 (by decide) ?_
  refine lv_iadd hx hb dL_law_1635 ?_
  refine lv_topi (fun x_9 ex_9 => ?_)
  obtain rfl : x_9 = 4 := ex_9.trans (by decide)
  refine va_sld hx hb hX hbl hbA hS (L := 6) (by unfold vp_in; decide) dL_law_1636 ?_
  refine W.eq (g2 := F0 m 1637 ls [.int (xs 4), .int (xs 3), .int (xs 2), .int (xs 1), .ref qm, .long (-2)]) rfl ?_
  refine cpVl (rest := [.long (-2)]) ⟨hx, hb, hml, hown, hts⟩ hKN (hP.sub (ws' := [(qm, .inr (12, [.int 0, .ref (v.1 0), .ref (v.1 1), .ref (v.1 2), .ref (v.1 3), .int 0, .ref (v.1 4), .int 0, .int 0, .int 0, .int 0, .int 0, .int 0, .int (-1), .ref (v.1 5), .int 0, .int 0, .int 0, .int 0, .int 0, .int 0, .ref (v.1 6), .ref (v.1 7), .ref (v.1 8), .ref (v.1 9), .int 0, .int 0, .ref (v.1 10), .int 0, .ref (v.1 11), .int 0, .ref (v.1 12), .ref (v.1 13), .ref (v.1 14), .ref (v.1 15)])), ((v.1 0), .inl (cA 1, 122, .inl (fun _ => 0)))]) [2, 3] rfl) (k_X12_chance l D cA qm (v.1 0) (v.1 1) (v.1 2) (v.1 3) (v.1 4) (v.1 5) (v.1 6) (v.1 7) (v.1 8) (v.1 9) (v.1 10) (v.1 11) (v.1 12) (v.1 13) (v.1 14) (v.1 15) (xs 1) (xs 2) (xs 3) (xs 4)) (tb_V tw_2039 tw_2040 tw_2041 tw_114 tw_2042) hdX12_chance ⟨rfl, rfl, Nat.le_of_ble_eq_true rfl, Nat.le_of_ble_eq_true rfl⟩ ⟨Nat.le_of_ble_eq_true rfl, Nat.le_of_ble_eq_true rfl⟩ rfl rfl rfl hl.1 rfl (Nat.le_of_ble_eq_true rfl) dL_law_1637 (fun r_10 hr_10 => ?_)
  obtain rfl : r_10 = (-2) := hr_10
  refine W.lcmp hx hb dL_law_1640 ?_
  refine lv_topi (fun x_11 ex_11 => ?_)
  obtain rfl : x_11 = 0 := ex_11.trans (by decide)
  refine lv_if_eq (tgt := 2271) hx hb dL_law_1641 (by decide) (fun c_12 => ?_) (fun c_12 => absurd (by decide) c_12)
  exact lawEnd l C0 hS (Nat.le_of_ble_eq_true rfl) (Nat.le_of_ble_eq_true rfl) (lv_sub hl [0, 1, 2, 3] rfl)
set_option maxHeartbeats 4000000 in
set_option maxRecDepth 100000 in
theorem law_c55 {p : Program} {e : Env} {s : State} {m : MethodId} {below : List Frame} {meth : Method} {c : Code} (l : Launch) {b : Nat} {xs : Nat → Int32} (C0 : lw_At p s m meth c b 6 xs) (D : va_G) (cA : Nat → ClassId) (hKN : KN D cA s) {H : Heap} {locs : List Loc} {ls : Array Slot} (qx qm : Nat) (u v : SU) (hP : va_P D vwCl (wXM cA qx qm u v) H) (hD : va_D (fun q : Nat => s.heap.size ≤ q) (wXM cA qx qm u v)) (hS : va_S (fun q : Nat => s.heap.size ≤ q) s.heap H locs) (hl : lv_has ls 4 [(3, .int 0), (2, .ref qm), (1, .ref qx), (0, .ref b)]) : W p l e room_1 s m #[Value.ref b] below meth c H locs 104 9712 (lw_Z below #[Value.ref b] s) (F0 m 1646 ls []) := by
  obtain ⟨hx, hb, hr, hml, hown, hts0, hX, hbl, hlocks, hgv⟩ := id C0
  have hts : ∀ w ∈ TB, w.before _ s = true := fun w h => hts0 w (List.mem_filter.mp h).1
  have hb : c.code = cL_law := hb
  have hown : s.vm.findClass "WristTreatyLaw" = some m.cls := hown
  have hA : ∀ q : Nat, s.heap.size ≤ q → (fun q : Nat => s.heap.size ≤ q) q := fun _ h => h
  have hbA : ¬ (fun q : Nat => s.heap.size ≤ q) b := Nat.not_le.mpr hbl
  have hP := hP.sub (ws' := [(qx, .inr (11, [.ref (u.1 0), .ref (u.1 2), .ref (u.1 13), .ref (u.1 22), .ref (u.1 26), .ref (u.1 69), .ref (u.1 73), .ref (u.1 74), .ref (u.1 77), .ref (u.1 79), .ref (u.1 83)])), ((u.1 13), .inr (3, [.int 0, .int 0, .int 0, .int 0, .int 0, .int 0, .int 0, .int 0, .ref (u.1 14), .ref (u.1 15), .ref (u.1 16), .ref (u.1 17), .ref (u.1 18), .ref (u.1 19), .ref (u.1 20), .ref (u.1 21)])), (qm, .inr (12, [.int 0, .ref (v.1 0), .ref (v.1 1), .ref (v.1 2), .ref (v.1 3), .int 0, .ref (v.1 4), .int 0, .int 0, .int 0, .int 0, .int 0, .int 0, .int (-1), .ref (v.1 5), .int 0, .int 0, .int 0, .int 0, .int 0, .int 0, .ref (v.1 6), .ref (v.1 7), .ref (v.1 8), .ref (v.1 9), .int 0, .int 0, .ref (v.1 10), .int 0, .ref (v.1 11), .int 0, .ref (v.1 12), .ref (v.1 13), .ref (v.1 14), .ref (v.1 15)])), ((v.1 0), .inl (cA 1, 122, .inl (fun _ => 0)))]) [0, 14, 87, 88] rfl
  have hD := hD.sub (ws' := [(qx, .inr (11, [.ref (u.1 0), .ref (u.1 2), .ref (u.1 13), .ref (u.1 22), .ref (u.1 26), .ref (u.1 69), .ref (u.1 73), .ref (u.1 74), .ref (u.1 77), .ref (u.1 79), .ref (u.1 83)])), ((u.1 13), .inr (3, [.int 0, .int 0, .int 0, .int 0, .int 0, .int 0, .int 0, .int 0, .ref (u.1 14), .ref (u.1 15), .ref (u.1 16), .ref (u.1 17), .ref (u.1 18), .ref (u.1 19), .ref (u.1 20), .ref (u.1 21)])), (qm, .inr (12, [.int 0, .ref (v.1 0), .ref (v.1 1), .ref (v.1 2), .ref (v.1 3), .int 0, .ref (v.1 4), .int 0, .int 0, .int 0, .int 0, .int 0, .int 0, .int (-1), .ref (v.1 5), .int 0, .int 0, .int 0, .int 0, .int 0, .int 0, .ref (v.1 6), .ref (v.1 7), .ref (v.1 8), .ref (v.1 9), .int 0, .int 0, .ref (v.1 10), .int 0, .ref (v.1 11), .int 0, .ref (v.1 12), .ref (v.1 13), .ref (v.1 14), .ref (v.1 15)])), ((v.1 0), .inl (cA 1, 122, .inl (fun _ => 0)))]) [0, 14, 87, 88] (by decide) rfl
  refine lv_aload_n hx hb dL_law_1646 rfl (lv_at hl 2 rfl) ?_
  refine lv_aload_n hx hb dL_law_1647 rfl (lv_at hl 3 rfl) ?_
  refine lv_iload_n hx hb dL_law_1648 rfl (lv_at hl 0 rfl) ?_
  refine lv_iconst (v := 1) hx hb dL_law_1649 (by decide) ?_
  refine lv_iadd hx hb dL_law_1650 ?_
  refine lv_topi (fun x_1 ex_1 => ?_)
  obtain rfl : x_1 = 1 := ex_1.trans (by decide)
  refine va_sld hx hb hX hbl hbA hS (L := 6) (by unfold vp_in; decide) dL_law_1651 ?_
  refine W.eq (g2 := F0 m 1652 ls [.int (xs 1), .ref qx]) rfl ?_
  refine lv_aload_n hx hb dL_law_1652 rfl (lv_at hl 3 rfl) ?_
  refine lv_iload_n hx hb dL_law_1653 rfl (lv_at hl 0 rfl) ?_
  refine lv_iconst (v := 2) hx hb dL_law_1654 (by decide) ?_
  refine lv_iadd hx hb dL_law_1655 ?_
  refine lv_topi (fun x_2 ex_2 => ?_)
  obtain rfl : x_2 = 2 := ex_2.trans (by decide)
  refine va_sld hx hb hX hbl hbA hS (L := 6) (by unfold vp_in; decide) dL_law_1656 ?_
  refine W.eq (g2 := F0 m 1657 ls [.int (xs 2), .int (xs 1), .ref qx]) rfl ?_
  refine lv_aload_n hx hb dL_law_1657 rfl (lv_at hl 3 rfl) ?_
  refine lv_iload_n hx hb dL_law_1658 rfl (lv_at hl 0 rfl) ?_
  refine lv_iconst (v := 3) hx hb dL_law_1659 (by decide) ?_
  refine lv_iadd hx hb dL_law_1660 ?_
  refine lv_topi (fun x_3 ex_3 => ?_)
  obtain rfl : x_3 = 3 := ex_3.trans (by decide)
  refine va_sld hx hb hX hbl hbA hS (L := 6) (by unfold vp_in; decide) dL_law_1661 ?_
  refine W.eq (g2 := F0 m 1662 ls [.int (xs 3), .int (xs 2), .int (xs 1), .ref qx]) rfl ?_
  refine cpVi (rest := []) ⟨hx, hb, hml, hown, hts⟩ hKN (hP.sub (ws' := [(qx, .inr (11, [.ref (u.1 0), .ref (u.1 2), .ref (u.1 13), .ref (u.1 22), .ref (u.1 26), .ref (u.1 69), .ref (u.1 73), .ref (u.1 74), .ref (u.1 77), .ref (u.1 79), .ref (u.1 83)])), ((u.1 13), .inr (3, [.int 0, .int 0, .int 0, .int 0, .int 0, .int 0, .int 0, .int 0, .ref (u.1 14), .ref (u.1 15), .ref (u.1 16), .ref (u.1 17), .ref (u.1 18), .ref (u.1 19), .ref (u.1 20), .ref (u.1 21)]))]) [0, 1] rfl) (k_X11_sure l D cA qx (u.1 0) (u.1 2) (u.1 13) (u.1 22) (u.1 26) (u.1 69) (u.1 73) (u.1 74) (u.1 77) (u.1 79) (u.1 83) (u.1 14) (u.1 15) (u.1 16) (u.1 17) (u.1 18) (u.1 19) (u.1 20) (u.1 21) (xs 1) (xs 2) (xs 3)) (tb_V tw_1253 tw_1254 tw_1255 tw_101 tw_1256) hdX11_sure ⟨rfl, rfl, Nat.le_of_ble_eq_true rfl, Nat.le_of_ble_eq_true rfl⟩ ⟨Nat.le_of_ble_eq_true rfl, Nat.le_of_ble_eq_true rfl⟩ rfl rfl rfl hl.1 rfl (Nat.le_of_ble_eq_true rfl) dL_law_1662 (fun r_4 hr_4 => ?_)
  obtain rfl : r_4 = (-2) := hr_4
  refine lv_aload_n hx hb dL_law_1665 rfl (lv_at hl 1 rfl) ?_
  refine lv_aload_n hx hb dL_law_1666 rfl (lv_at hl 3 rfl) ?_
  refine lv_iload_n hx hb dL_law_1667 rfl (lv_at hl 0 rfl) ?_
  refine lv_iconst (v := 1) hx hb dL_law_1668 (by decide) ?_
  refine lv_iadd hx hb dL_law_1669 ?_
  refine lv_topi (fun x_5 ex_5 => ?_)
  obtain rfl : x_5 = 1 := ex_5.trans (by decide)
  refine va_sld hx hb hX hbl hbA hS (L := 6) (by unfold vp_in; decide) dL_law_1670 ?_
  refine W.eq (g2 := F0 m 1671 ls [.int (xs 1), .ref qm, .int (-2)]) rfl ?_
  refine lv_aload_n hx hb dL_law_1671 rfl (lv_at hl 3 rfl) ?_
  refine lv_iload_n hx hb dL_law_1672 rfl (lv_at hl 0 rfl) ?_
  refine lv_iconst (v := 2) hx hb dL_law_1673 (by decide) ?_
  refine lv_iadd hx hb dL_law_1674 ?_
  refine lv_topi (fun x_6 ex_6 => ?_)
  obtain rfl : x_6 = 2 := ex_6.trans (by decide)
  refine va_sld hx hb hX hbl hbA hS (L := 6) (by unfold vp_in; decide) dL_law_1675 ?_
  refine W.eq (g2 := F0 m 1676 ls [.int (xs 2), .int (xs 1), .ref qm, .int (-2)]) rfl ?_
  refine lv_aload_n hx hb dL_law_1676 rfl (lv_at hl 3 rfl) ?_
  refine lv_iload_n hx hb dL_law_1677 rfl (lv_at hl 0 rfl) ?_
  refine lv_iconst (v := 3) hx hb dL_law_1678 (by decide) ?_
  refine lv_iadd hx hb dL_law_1679 ?_
  refine lv_topi (fun x_7 ex_7 => ?_)
  obtain rfl : x_7 = 3 := ex_7.trans (by decide)
  refine va_sld hx hb hX hbl hbA hS (L := 6) (by unfold vp_in; decide) dL_law_1680 ?_
  refine W.eq (g2 := F0 m 1681 ls [.int (xs 3), .int (xs 2), .int (xs 1), .ref qm, .int (-2)]) rfl ?_
  refine cpVi (rest := [.int (-2)]) ⟨hx, hb, hml, hown, hts⟩ hKN (hP.sub (ws' := [(qm, .inr (12, [.int 0, .ref (v.1 0), .ref (v.1 1), .ref (v.1 2), .ref (v.1 3), .int 0, .ref (v.1 4), .int 0, .int 0, .int 0, .int 0, .int 0, .int 0, .int (-1), .ref (v.1 5), .int 0, .int 0, .int 0, .int 0, .int 0, .int 0, .ref (v.1 6), .ref (v.1 7), .ref (v.1 8), .ref (v.1 9), .int 0, .int 0, .ref (v.1 10), .int 0, .ref (v.1 11), .int 0, .ref (v.1 12), .ref (v.1 13), .ref (v.1 14), .ref (v.1 15)])), ((v.1 0), .inl (cA 1, 122, .inl (fun _ => 0)))]) [2, 3] rfl) (k_X12_sure l D cA qm (v.1 0) (v.1 1) (v.1 2) (v.1 3) (v.1 4) (v.1 5) (v.1 6) (v.1 7) (v.1 8) (v.1 9) (v.1 10) (v.1 11) (v.1 12) (v.1 13) (v.1 14) (v.1 15) (xs 1) (xs 2) (xs 3)) (tb_V tw_2056 tw_2057 tw_2058 tw_114 tw_2059) hdX12_sure ⟨rfl, rfl, Nat.le_of_ble_eq_true rfl, Nat.le_of_ble_eq_true rfl⟩ ⟨Nat.le_of_ble_eq_true rfl, Nat.le_of_ble_eq_true rfl⟩ rfl rfl rfl hl.1 rfl (Nat.le_of_ble_eq_true rfl) dL_law_1681 (fun r_8 hr_8 => ?_)
  obtain rfl : r_8 = (-2) := hr_8
  refine lv_icmp_eq (tgt := 2271) hx hb dL_law_1684 (by decide) (fun c_9 => ?_) (fun c_9 => absurd (by decide) c_9)
  exact lawEnd l C0 hS (Nat.le_of_ble_eq_true rfl) (Nat.le_of_ble_eq_true rfl) (lv_sub hl [0, 1, 2, 3] rfl)
set_option maxHeartbeats 4000000 in
set_option maxRecDepth 100000 in
theorem law_c56 {p : Program} {e : Env} {s : State} {m : MethodId} {below : List Frame} {meth : Method} {c : Code} (l : Launch) {b : Nat} {xs : Nat → Int32} (C0 : lw_At p s m meth c b 6 xs) (D : va_G) (cA : Nat → ClassId) (hKN : KN D cA s) {H : Heap} {locs : List Loc} {ls : Array Slot} (qx qm : Nat) (u v : SU) (hP : va_P D vwCl (wXM cA qx qm u v) H) (hD : va_D (fun q : Nat => s.heap.size ≤ q) (wXM cA qx qm u v)) (hS : va_S (fun q : Nat => s.heap.size ≤ q) s.heap H locs) (hl : lv_has ls 4 [(3, .int 0), (2, .ref qm), (1, .ref qx), (0, .ref b)]) : W p l e room_1 s m #[Value.ref b] below meth c H locs 104 9712 (lw_Z below #[Value.ref b] s) (F0 m 1689 ls []) := by
  obtain ⟨hx, hb, hr, hml, hown, hts0, hX, hbl, hlocks, hgv⟩ := id C0
  have hts : ∀ w ∈ TB, w.before _ s = true := fun w h => hts0 w (List.mem_filter.mp h).1
  have hb : c.code = cL_law := hb
  have hown : s.vm.findClass "WristTreatyLaw" = some m.cls := hown
  have hA : ∀ q : Nat, s.heap.size ≤ q → (fun q : Nat => s.heap.size ≤ q) q := fun _ h => h
  have hbA : ¬ (fun q : Nat => s.heap.size ≤ q) b := Nat.not_le.mpr hbl
  have hP := hP.sub (ws' := [(qx, .inr (11, [.ref (u.1 0), .ref (u.1 2), .ref (u.1 13), .ref (u.1 22), .ref (u.1 26), .ref (u.1 69), .ref (u.1 73), .ref (u.1 74), .ref (u.1 77), .ref (u.1 79), .ref (u.1 83)])), ((u.1 13), .inr (3, [.int 0, .int 0, .int 0, .int 0, .int 0, .int 0, .int 0, .int 0, .ref (u.1 14), .ref (u.1 15), .ref (u.1 16), .ref (u.1 17), .ref (u.1 18), .ref (u.1 19), .ref (u.1 20), .ref (u.1 21)])), (qm, .inr (12, [.int 0, .ref (v.1 0), .ref (v.1 1), .ref (v.1 2), .ref (v.1 3), .int 0, .ref (v.1 4), .int 0, .int 0, .int 0, .int 0, .int 0, .int 0, .int (-1), .ref (v.1 5), .int 0, .int 0, .int 0, .int 0, .int 0, .int 0, .ref (v.1 6), .ref (v.1 7), .ref (v.1 8), .ref (v.1 9), .int 0, .int 0, .ref (v.1 10), .int 0, .ref (v.1 11), .int 0, .ref (v.1 12), .ref (v.1 13), .ref (v.1 14), .ref (v.1 15)])), ((v.1 0), .inl (cA 1, 122, .inl (fun _ => 0)))]) [0, 14, 87, 88] rfl
  have hD := hD.sub (ws' := [(qx, .inr (11, [.ref (u.1 0), .ref (u.1 2), .ref (u.1 13), .ref (u.1 22), .ref (u.1 26), .ref (u.1 69), .ref (u.1 73), .ref (u.1 74), .ref (u.1 77), .ref (u.1 79), .ref (u.1 83)])), ((u.1 13), .inr (3, [.int 0, .int 0, .int 0, .int 0, .int 0, .int 0, .int 0, .int 0, .ref (u.1 14), .ref (u.1 15), .ref (u.1 16), .ref (u.1 17), .ref (u.1 18), .ref (u.1 19), .ref (u.1 20), .ref (u.1 21)])), (qm, .inr (12, [.int 0, .ref (v.1 0), .ref (v.1 1), .ref (v.1 2), .ref (v.1 3), .int 0, .ref (v.1 4), .int 0, .int 0, .int 0, .int 0, .int 0, .int 0, .int (-1), .ref (v.1 5), .int 0, .int 0, .int 0, .int 0, .int 0, .int 0, .ref (v.1 6), .ref (v.1 7), .ref (v.1 8), .ref (v.1 9), .int 0, .int 0, .ref (v.1 10), .int 0, .ref (v.1 11), .int 0, .ref (v.1 12), .ref (v.1 13), .ref (v.1 14), .ref (v.1 15)])), ((v.1 0), .inl (cA 1, 122, .inl (fun _ => 0)))]) [0, 14, 87, 88] (by decide) rfl
  refine lv_aload_n hx hb dL_law_1689 rfl (lv_at hl 2 rfl) ?_
  refine lv_aload_n hx hb dL_law_1690 rfl (lv_at hl 3 rfl) ?_
  refine lv_iload_n hx hb dL_law_1691 rfl (lv_at hl 0 rfl) ?_
  refine lv_iconst (v := 1) hx hb dL_law_1692 (by decide) ?_
  refine lv_iadd hx hb dL_law_1693 ?_
  refine lv_topi (fun x_1 ex_1 => ?_)
  obtain rfl : x_1 = 1 := ex_1.trans (by decide)
  refine va_sld hx hb hX hbl hbA hS (L := 6) (by unfold vp_in; decide) dL_law_1694 ?_
  refine W.eq (g2 := F0 m 1695 ls [.int (xs 1), .ref qx]) rfl ?_
  refine lv_aload_n hx hb dL_law_1695 rfl (lv_at hl 3 rfl) ?_
  refine lv_iload_n hx hb dL_law_1696 rfl (lv_at hl 0 rfl) ?_
  refine lv_iconst (v := 2) hx hb dL_law_1697 (by decide) ?_
  refine lv_iadd hx hb dL_law_1698 ?_
  refine lv_topi (fun x_2 ex_2 => ?_)
  obtain rfl : x_2 = 2 := ex_2.trans (by decide)
  refine va_sld hx hb hX hbl hbA hS (L := 6) (by unfold vp_in; decide) dL_law_1699 ?_
  refine W.eq (g2 := F0 m 1700 ls [.int (xs 2), .int (xs 1), .ref qx]) rfl ?_
  refine lv_aload_n hx hb dL_law_1700 rfl (lv_at hl 3 rfl) ?_
  refine lv_iload_n hx hb dL_law_1701 rfl (lv_at hl 0 rfl) ?_
  refine lv_iconst (v := 3) hx hb dL_law_1702 (by decide) ?_
  refine lv_iadd hx hb dL_law_1703 ?_
  refine lv_topi (fun x_3 ex_3 => ?_)
  obtain rfl : x_3 = 3 := ex_3.trans (by decide)
  refine va_sld hx hb hX hbl hbA hS (L := 6) (by unfold vp_in; decide) dL_law_1704 ?_
  refine W.eq (g2 := F0 m 1705 ls [.int (xs 3), .int (xs 2), .int (xs 1), .ref qx]) rfl ?_
  refine cpVl (rest := []) ⟨hx, hb, hml, hown, hts⟩ hKN (hP.sub (ws' := [(qx, .inr (11, [.ref (u.1 0), .ref (u.1 2), .ref (u.1 13), .ref (u.1 22), .ref (u.1 26), .ref (u.1 69), .ref (u.1 73), .ref (u.1 74), .ref (u.1 77), .ref (u.1 79), .ref (u.1 83)])), ((u.1 13), .inr (3, [.int 0, .int 0, .int 0, .int 0, .int 0, .int 0, .int 0, .int 0, .ref (u.1 14), .ref (u.1 15), .ref (u.1 16), .ref (u.1 17), .ref (u.1 18), .ref (u.1 19), .ref (u.1 20), .ref (u.1 21)]))]) [0, 1] rfl) (k_X11_mean l D cA qx (u.1 0) (u.1 2) (u.1 13) (u.1 22) (u.1 26) (u.1 69) (u.1 73) (u.1 74) (u.1 77) (u.1 79) (u.1 83) (u.1 14) (u.1 15) (u.1 16) (u.1 17) (u.1 18) (u.1 19) (u.1 20) (u.1 21) (xs 1) (xs 2) (xs 3)) (tb_V tw_1262 tw_1263 tw_1264 tw_101 tw_1265) hdX11_mean ⟨rfl, rfl, Nat.le_of_ble_eq_true rfl, Nat.le_of_ble_eq_true rfl⟩ ⟨Nat.le_of_ble_eq_true rfl, Nat.le_of_ble_eq_true rfl⟩ rfl rfl rfl hl.1 rfl (Nat.le_of_ble_eq_true rfl) dL_law_1705 (fun r_4 hr_4 => ?_)
  obtain rfl : r_4 = (-2) := hr_4
  refine lv_aload_n hx hb dL_law_1708 rfl (lv_at hl 1 rfl) ?_
  refine lv_aload_n hx hb dL_law_1709 rfl (lv_at hl 3 rfl) ?_
  refine lv_iload_n hx hb dL_law_1710 rfl (lv_at hl 0 rfl) ?_
  refine lv_iconst (v := 1) hx hb dL_law_1711 (by decide) ?_
  refine lv_iadd hx hb dL_law_1712 ?_
  refine lv_topi (fun x_5 ex_5 => ?_)
  obtain rfl : x_5 = 1 := ex_5.trans (by decide)
  refine va_sld hx hb hX hbl hbA hS (L := 6) (by unfold vp_in; decide) dL_law_1713 ?_
  refine W.eq (g2 := F0 m 1714 ls [.int (xs 1), .ref qm, .long (-2)]) rfl ?_
  refine lv_aload_n hx hb dL_law_1714 rfl (lv_at hl 3 rfl) ?_
  refine lv_iload_n hx hb dL_law_1715 rfl (lv_at hl 0 rfl) ?_
  refine lv_iconst (v := 2) hx hb dL_law_1716 (by decide) ?_
  refine lv_iadd hx hb dL_law_1717 ?_
  refine lv_topi (fun x_6 ex_6 => ?_)
  obtain rfl : x_6 = 2 := ex_6.trans (by decide)
  refine va_sld hx hb hX hbl hbA hS (L := 6) (by unfold vp_in; decide) dL_law_1718 ?_
  refine W.eq (g2 := F0 m 1719 ls [.int (xs 2), .int (xs 1), .ref qm, .long (-2)]) rfl ?_
  refine lv_aload_n hx hb dL_law_1719 rfl (lv_at hl 3 rfl) ?_
  refine lv_iload_n hx hb dL_law_1720 rfl (lv_at hl 0 rfl) ?_
  refine lv_iconst (v := 3) hx hb dL_law_1721 (by decide) ?_
  refine lv_iadd hx hb dL_law_1722 ?_
  refine lv_topi (fun x_7 ex_7 => ?_)
  obtain rfl : x_7 = 3 := ex_7.trans (by decide)
  refine va_sld hx hb hX hbl hbA hS (L := 6) (by unfold vp_in; decide) dL_law_1723 ?_
  refine W.eq (g2 := F0 m 1724 ls [.int (xs 3), .int (xs 2), .int (xs 1), .ref qm, .long (-2)]) rfl ?_
  refine cpVl (rest := [.long (-2)]) ⟨hx, hb, hml, hown, hts⟩ hKN (hP.sub (ws' := [(qm, .inr (12, [.int 0, .ref (v.1 0), .ref (v.1 1), .ref (v.1 2), .ref (v.1 3), .int 0, .ref (v.1 4), .int 0, .int 0, .int 0, .int 0, .int 0, .int 0, .int (-1), .ref (v.1 5), .int 0, .int 0, .int 0, .int 0, .int 0, .int 0, .ref (v.1 6), .ref (v.1 7), .ref (v.1 8), .ref (v.1 9), .int 0, .int 0, .ref (v.1 10), .int 0, .ref (v.1 11), .int 0, .ref (v.1 12), .ref (v.1 13), .ref (v.1 14), .ref (v.1 15)])), ((v.1 0), .inl (cA 1, 122, .inl (fun _ => 0)))]) [2, 3] rfl) (k_X12_mean l D cA qm (v.1 0) (v.1 1) (v.1 2) (v.1 3) (v.1 4) (v.1 5) (v.1 6) (v.1 7) (v.1 8) (v.1 9) (v.1 10) (v.1 11) (v.1 12) (v.1 13) (v.1 14) (v.1 15) (xs 1) (xs 2) (xs 3)) (tb_V tw_2065 tw_2066 tw_2067 tw_114 tw_2068) hdX12_mean ⟨rfl, rfl, Nat.le_of_ble_eq_true rfl, Nat.le_of_ble_eq_true rfl⟩ ⟨Nat.le_of_ble_eq_true rfl, Nat.le_of_ble_eq_true rfl⟩ rfl rfl rfl hl.1 rfl (Nat.le_of_ble_eq_true rfl) dL_law_1724 (fun r_8 hr_8 => ?_)
  obtain rfl : r_8 = (-2) := hr_8
  refine W.lcmp hx hb dL_law_1727 ?_
  refine lv_topi (fun x_9 ex_9 => ?_)
  obtain rfl : x_9 = 0 := ex_9.trans (by decide)
  refine lv_if_eq (tgt := 2271) hx hb dL_law_1728 (by decide) (fun c_10 => ?_) (fun c_10 => absurd (by decide) c_10)
  exact lawEnd l C0 hS (Nat.le_of_ble_eq_true rfl) (Nat.le_of_ble_eq_true rfl) (lv_sub hl [0, 1, 2, 3] rfl)
set_option maxHeartbeats 4000000 in
set_option maxRecDepth 100000 in
theorem law_c57 {p : Program} {e : Env} {s : State} {m : MethodId} {below : List Frame} {meth : Method} {c : Code} (l : Launch) {b : Nat} {xs : Nat → Int32} (C0 : lw_At p s m meth c b 6 xs) (D : va_G) (cA : Nat → ClassId) (hKN : KN D cA s) {H : Heap} {locs : List Loc} {ls : Array Slot} (qx qm : Nat) (u v : SU) (hP : va_P D vwCl (wXM cA qx qm u v) H) (hD : va_D (fun q : Nat => s.heap.size ≤ q) (wXM cA qx qm u v)) (hS : va_S (fun q : Nat => s.heap.size ≤ q) s.heap H locs) (hl : lv_has ls 4 [(3, .int 0), (2, .ref qm), (1, .ref qx), (0, .ref b)]) : W p l e room_1 s m #[Value.ref b] below meth c H locs 104 9712 (lw_Z below #[Value.ref b] s) (F0 m 1733 ls []) := by
  obtain ⟨hx, hb, hr, hml, hown, hts0, hX, hbl, hlocks, hgv⟩ := id C0
  have hts : ∀ w ∈ TB, w.before _ s = true := fun w h => hts0 w (List.mem_filter.mp h).1
  have hb : c.code = cL_law := hb
  have hown : s.vm.findClass "WristTreatyLaw" = some m.cls := hown
  have hA : ∀ q : Nat, s.heap.size ≤ q → (fun q : Nat => s.heap.size ≤ q) q := fun _ h => h
  have hbA : ¬ (fun q : Nat => s.heap.size ≤ q) b := Nat.not_le.mpr hbl
  have hP := hP.sub (ws' := [(qx, .inr (11, [.ref (u.1 0), .ref (u.1 2), .ref (u.1 13), .ref (u.1 22), .ref (u.1 26), .ref (u.1 69), .ref (u.1 73), .ref (u.1 74), .ref (u.1 77), .ref (u.1 79), .ref (u.1 83)])), ((u.1 13), .inr (3, [.int 0, .int 0, .int 0, .int 0, .int 0, .int 0, .int 0, .int 0, .ref (u.1 14), .ref (u.1 15), .ref (u.1 16), .ref (u.1 17), .ref (u.1 18), .ref (u.1 19), .ref (u.1 20), .ref (u.1 21)])), (qm, .inr (12, [.int 0, .ref (v.1 0), .ref (v.1 1), .ref (v.1 2), .ref (v.1 3), .int 0, .ref (v.1 4), .int 0, .int 0, .int 0, .int 0, .int 0, .int 0, .int (-1), .ref (v.1 5), .int 0, .int 0, .int 0, .int 0, .int 0, .int 0, .ref (v.1 6), .ref (v.1 7), .ref (v.1 8), .ref (v.1 9), .int 0, .int 0, .ref (v.1 10), .int 0, .ref (v.1 11), .int 0, .ref (v.1 12), .ref (v.1 13), .ref (v.1 14), .ref (v.1 15)])), ((v.1 0), .inl (cA 1, 122, .inl (fun _ => 0)))]) [0, 14, 87, 88] rfl
  have hD := hD.sub (ws' := [(qx, .inr (11, [.ref (u.1 0), .ref (u.1 2), .ref (u.1 13), .ref (u.1 22), .ref (u.1 26), .ref (u.1 69), .ref (u.1 73), .ref (u.1 74), .ref (u.1 77), .ref (u.1 79), .ref (u.1 83)])), ((u.1 13), .inr (3, [.int 0, .int 0, .int 0, .int 0, .int 0, .int 0, .int 0, .int 0, .ref (u.1 14), .ref (u.1 15), .ref (u.1 16), .ref (u.1 17), .ref (u.1 18), .ref (u.1 19), .ref (u.1 20), .ref (u.1 21)])), (qm, .inr (12, [.int 0, .ref (v.1 0), .ref (v.1 1), .ref (v.1 2), .ref (v.1 3), .int 0, .ref (v.1 4), .int 0, .int 0, .int 0, .int 0, .int 0, .int 0, .int (-1), .ref (v.1 5), .int 0, .int 0, .int 0, .int 0, .int 0, .int 0, .ref (v.1 6), .ref (v.1 7), .ref (v.1 8), .ref (v.1 9), .int 0, .int 0, .ref (v.1 10), .int 0, .ref (v.1 11), .int 0, .ref (v.1 12), .ref (v.1 13), .ref (v.1 14), .ref (v.1 15)])), ((v.1 0), .inl (cA 1, 122, .inl (fun _ => 0)))]) [0, 14, 87, 88] (by decide) rfl
  refine lv_aload_n hx hb dL_law_1733 rfl (lv_at hl 2 rfl) ?_
  refine lv_aload_n hx hb dL_law_1734 rfl (lv_at hl 3 rfl) ?_
  refine lv_iload_n hx hb dL_law_1735 rfl (lv_at hl 0 rfl) ?_
  refine lv_iconst (v := 1) hx hb dL_law_1736 (by decide) ?_
  refine lv_iadd hx hb dL_law_1737 ?_
  refine lv_topi (fun x_1 ex_1 => ?_)
  obtain rfl : x_1 = 1 := ex_1.trans (by decide)
  refine va_sld hx hb hX hbl hbA hS (L := 6) (by unfold vp_in; decide) dL_law_1738 ?_
  refine W.eq (g2 := F0 m 1739 ls [.int (xs 1), .ref qx]) rfl ?_
  refine lv_aload_n hx hb dL_law_1739 rfl (lv_at hl 3 rfl) ?_
  refine lv_iload_n hx hb dL_law_1740 rfl (lv_at hl 0 rfl) ?_
  refine lv_iconst (v := 2) hx hb dL_law_1741 (by decide) ?_
  refine lv_iadd hx hb dL_law_1742 ?_
  refine lv_topi (fun x_2 ex_2 => ?_)
  obtain rfl : x_2 = 2 := ex_2.trans (by decide)
  refine va_sld hx hb hX hbl hbA hS (L := 6) (by unfold vp_in; decide) dL_law_1743 ?_
  refine W.eq (g2 := F0 m 1744 ls [.int (xs 2), .int (xs 1), .ref qx]) rfl ?_
  refine cpVi (rest := []) ⟨hx, hb, hml, hown, hts⟩ hKN (hP.sub (ws' := [(qx, .inr (11, [.ref (u.1 0), .ref (u.1 2), .ref (u.1 13), .ref (u.1 22), .ref (u.1 26), .ref (u.1 69), .ref (u.1 73), .ref (u.1 74), .ref (u.1 77), .ref (u.1 79), .ref (u.1 83)])), ((u.1 13), .inr (3, [.int 0, .int 0, .int 0, .int 0, .int 0, .int 0, .int 0, .int 0, .ref (u.1 14), .ref (u.1 15), .ref (u.1 16), .ref (u.1 17), .ref (u.1 18), .ref (u.1 19), .ref (u.1 20), .ref (u.1 21)]))]) [0, 1] rfl) (k_X11_push l D cA qx (u.1 0) (u.1 2) (u.1 13) (u.1 22) (u.1 26) (u.1 69) (u.1 73) (u.1 74) (u.1 77) (u.1 79) (u.1 83) (u.1 14) (u.1 15) (u.1 16) (u.1 17) (u.1 18) (u.1 19) (u.1 20) (u.1 21) (xs 1) (xs 2)) (tb_V tw_1266 tw_1267 tw_1268 tw_101 tw_1269) hdX11_push ⟨rfl, rfl, Nat.le_of_ble_eq_true rfl, Nat.le_of_ble_eq_true rfl⟩ ⟨Nat.le_of_ble_eq_true rfl, Nat.le_of_ble_eq_true rfl⟩ rfl rfl rfl hl.1 rfl (Nat.le_of_ble_eq_true rfl) dL_law_1744 (fun r_3 hr_3 => ?_)
  obtain rfl : r_3 = (-2) := hr_3
  refine lv_aload_n hx hb dL_law_1747 rfl (lv_at hl 1 rfl) ?_
  refine lv_aload_n hx hb dL_law_1748 rfl (lv_at hl 3 rfl) ?_
  refine lv_iload_n hx hb dL_law_1749 rfl (lv_at hl 0 rfl) ?_
  refine lv_iconst (v := 1) hx hb dL_law_1750 (by decide) ?_
  refine lv_iadd hx hb dL_law_1751 ?_
  refine lv_topi (fun x_4 ex_4 => ?_)
  obtain rfl : x_4 = 1 := ex_4.trans (by decide)
  refine va_sld hx hb hX hbl hbA hS (L := 6) (by unfold vp_in; decide) dL_law_1752 ?_
  refine W.eq (g2 := F0 m 1753 ls [.int (xs 1), .ref qm, .int (-2)]) rfl ?_
  refine lv_aload_n hx hb dL_law_1753 rfl (lv_at hl 3 rfl) ?_
  refine lv_iload_n hx hb dL_law_1754 rfl (lv_at hl 0 rfl) ?_
  refine lv_iconst (v := 2) hx hb dL_law_1755 (by decide) ?_
  refine lv_iadd hx hb dL_law_1756 ?_
  refine lv_topi (fun x_5 ex_5 => ?_)
  obtain rfl : x_5 = 2 := ex_5.trans (by decide)
  refine va_sld hx hb hX hbl hbA hS (L := 6) (by unfold vp_in; decide) dL_law_1757 ?_
  refine W.eq (g2 := F0 m 1758 ls [.int (xs 2), .int (xs 1), .ref qm, .int (-2)]) rfl ?_
  refine cpVi (rest := [.int (-2)]) ⟨hx, hb, hml, hown, hts⟩ hKN (hP.sub (ws' := [(qm, .inr (12, [.int 0, .ref (v.1 0), .ref (v.1 1), .ref (v.1 2), .ref (v.1 3), .int 0, .ref (v.1 4), .int 0, .int 0, .int 0, .int 0, .int 0, .int 0, .int (-1), .ref (v.1 5), .int 0, .int 0, .int 0, .int 0, .int 0, .int 0, .ref (v.1 6), .ref (v.1 7), .ref (v.1 8), .ref (v.1 9), .int 0, .int 0, .ref (v.1 10), .int 0, .ref (v.1 11), .int 0, .ref (v.1 12), .ref (v.1 13), .ref (v.1 14), .ref (v.1 15)])), ((v.1 0), .inl (cA 1, 122, .inl (fun _ => 0)))]) [2, 3] rfl) (k_X12_push l D cA qm (v.1 0) (v.1 1) (v.1 2) (v.1 3) (v.1 4) (v.1 5) (v.1 6) (v.1 7) (v.1 8) (v.1 9) (v.1 10) (v.1 11) (v.1 12) (v.1 13) (v.1 14) (v.1 15) (xs 1) (xs 2)) (tb_V tw_2069 tw_2070 tw_2071 tw_114 tw_2072) hdX12_push ⟨rfl, rfl, Nat.le_of_ble_eq_true rfl, Nat.le_of_ble_eq_true rfl⟩ ⟨Nat.le_of_ble_eq_true rfl, Nat.le_of_ble_eq_true rfl⟩ rfl rfl rfl hl.1 rfl (Nat.le_of_ble_eq_true rfl) dL_law_1758 (fun r_6 hr_6 => ?_)
  obtain rfl : r_6 = (-2) := hr_6
  refine lv_icmp_eq (tgt := 2271) hx hb dL_law_1761 (by decide) (fun c_7 => ?_) (fun c_7 => absurd (by decide) c_7)
  exact lawEnd l C0 hS (Nat.le_of_ble_eq_true rfl) (Nat.le_of_ble_eq_true rfl) (lv_sub hl [0, 1, 2, 3] rfl)
set_option maxHeartbeats 4000000 in
set_option maxRecDepth 100000 in
theorem law_c58 {p : Program} {e : Env} {s : State} {m : MethodId} {below : List Frame} {meth : Method} {c : Code} (l : Launch) {b : Nat} {xs : Nat → Int32} (C0 : lw_At p s m meth c b 6 xs) (D : va_G) (cA : Nat → ClassId) (hKN : KN D cA s) {H : Heap} {locs : List Loc} {ls : Array Slot} (qx qm : Nat) (u v : SU) (hP : va_P D vwCl (wXM cA qx qm u v) H) (hD : va_D (fun q : Nat => s.heap.size ≤ q) (wXM cA qx qm u v)) (hS : va_S (fun q : Nat => s.heap.size ≤ q) s.heap H locs) (hl : lv_has ls 4 [(3, .int 0), (2, .ref qm), (1, .ref qx), (0, .ref b)]) : W p l e room_1 s m #[Value.ref b] below meth c H locs 104 9712 (lw_Z below #[Value.ref b] s) (F0 m 1766 ls []) := by
  obtain ⟨hx, hb, hr, hml, hown, hts0, hX, hbl, hlocks, hgv⟩ := id C0
  have hts : ∀ w ∈ TB, w.before _ s = true := fun w h => hts0 w (List.mem_filter.mp h).1
  have hb : c.code = cL_law := hb
  have hown : s.vm.findClass "WristTreatyLaw" = some m.cls := hown
  have hA : ∀ q : Nat, s.heap.size ≤ q → (fun q : Nat => s.heap.size ≤ q) q := fun _ h => h
  have hbA : ¬ (fun q : Nat => s.heap.size ≤ q) b := Nat.not_le.mpr hbl
  have hP := hP.sub (ws' := [(qx, .inr (11, [.ref (u.1 0), .ref (u.1 2), .ref (u.1 13), .ref (u.1 22), .ref (u.1 26), .ref (u.1 69), .ref (u.1 73), .ref (u.1 74), .ref (u.1 77), .ref (u.1 79), .ref (u.1 83)])), ((u.1 13), .inr (3, [.int 0, .int 0, .int 0, .int 0, .int 0, .int 0, .int 0, .int 0, .ref (u.1 14), .ref (u.1 15), .ref (u.1 16), .ref (u.1 17), .ref (u.1 18), .ref (u.1 19), .ref (u.1 20), .ref (u.1 21)])), (qm, .inr (12, [.int 0, .ref (v.1 0), .ref (v.1 1), .ref (v.1 2), .ref (v.1 3), .int 0, .ref (v.1 4), .int 0, .int 0, .int 0, .int 0, .int 0, .int 0, .int (-1), .ref (v.1 5), .int 0, .int 0, .int 0, .int 0, .int 0, .int 0, .ref (v.1 6), .ref (v.1 7), .ref (v.1 8), .ref (v.1 9), .int 0, .int 0, .ref (v.1 10), .int 0, .ref (v.1 11), .int 0, .ref (v.1 12), .ref (v.1 13), .ref (v.1 14), .ref (v.1 15)])), ((v.1 0), .inl (cA 1, 122, .inl (fun _ => 0)))]) [0, 14, 87, 88] rfl
  have hD := hD.sub (ws' := [(qx, .inr (11, [.ref (u.1 0), .ref (u.1 2), .ref (u.1 13), .ref (u.1 22), .ref (u.1 26), .ref (u.1 69), .ref (u.1 73), .ref (u.1 74), .ref (u.1 77), .ref (u.1 79), .ref (u.1 83)])), ((u.1 13), .inr (3, [.int 0, .int 0, .int 0, .int 0, .int 0, .int 0, .int 0, .int 0, .ref (u.1 14), .ref (u.1 15), .ref (u.1 16), .ref (u.1 17), .ref (u.1 18), .ref (u.1 19), .ref (u.1 20), .ref (u.1 21)])), (qm, .inr (12, [.int 0, .ref (v.1 0), .ref (v.1 1), .ref (v.1 2), .ref (v.1 3), .int 0, .ref (v.1 4), .int 0, .int 0, .int 0, .int 0, .int 0, .int 0, .int (-1), .ref (v.1 5), .int 0, .int 0, .int 0, .int 0, .int 0, .int 0, .ref (v.1 6), .ref (v.1 7), .ref (v.1 8), .ref (v.1 9), .int 0, .int 0, .ref (v.1 10), .int 0, .ref (v.1 11), .int 0, .ref (v.1 12), .ref (v.1 13), .ref (v.1 14), .ref (v.1 15)])), ((v.1 0), .inl (cA 1, 122, .inl (fun _ => 0)))]) [0, 14, 87, 88] (by decide) rfl
  refine lv_aload_n hx hb dL_law_1766 rfl (lv_at hl 2 rfl) ?_
  refine lv_aload_n hx hb dL_law_1767 rfl (lv_at hl 3 rfl) ?_
  refine lv_iload_n hx hb dL_law_1768 rfl (lv_at hl 0 rfl) ?_
  refine lv_iconst (v := 1) hx hb dL_law_1769 (by decide) ?_
  refine lv_iadd hx hb dL_law_1770 ?_
  refine lv_topi (fun x_1 ex_1 => ?_)
  obtain rfl : x_1 = 1 := ex_1.trans (by decide)
  refine va_sld hx hb hX hbl hbA hS (L := 6) (by unfold vp_in; decide) dL_law_1771 ?_
  refine W.eq (g2 := F0 m 1772 ls [.int (xs 1), .ref qx]) rfl ?_
  refine lv_aload_n hx hb dL_law_1772 rfl (lv_at hl 3 rfl) ?_
  refine lv_iload_n hx hb dL_law_1773 rfl (lv_at hl 0 rfl) ?_
  refine lv_iconst (v := 2) hx hb dL_law_1774 (by decide) ?_
  refine lv_iadd hx hb dL_law_1775 ?_
  refine lv_topi (fun x_2 ex_2 => ?_)
  obtain rfl : x_2 = 2 := ex_2.trans (by decide)
  refine va_sld hx hb hX hbl hbA hS (L := 6) (by unfold vp_in; decide) dL_law_1776 ?_
  refine W.eq (g2 := F0 m 1777 ls [.int (xs 2), .int (xs 1), .ref qx]) rfl ?_
  refine cpVi (rest := []) ⟨hx, hb, hml, hown, hts⟩ hKN (hP.sub (ws' := [(qx, .inr (11, [.ref (u.1 0), .ref (u.1 2), .ref (u.1 13), .ref (u.1 22), .ref (u.1 26), .ref (u.1 69), .ref (u.1 73), .ref (u.1 74), .ref (u.1 77), .ref (u.1 79), .ref (u.1 83)])), ((u.1 13), .inr (3, [.int 0, .int 0, .int 0, .int 0, .int 0, .int 0, .int 0, .int 0, .ref (u.1 14), .ref (u.1 15), .ref (u.1 16), .ref (u.1 17), .ref (u.1 18), .ref (u.1 19), .ref (u.1 20), .ref (u.1 21)]))]) [0, 1] rfl) (k_X11_swing l D cA qx (u.1 0) (u.1 2) (u.1 13) (u.1 22) (u.1 26) (u.1 69) (u.1 73) (u.1 74) (u.1 77) (u.1 79) (u.1 83) (u.1 14) (u.1 15) (u.1 16) (u.1 17) (u.1 18) (u.1 19) (u.1 20) (u.1 21) (xs 1) (xs 2)) (tb_V tw_1291 tw_1292 tw_1293 tw_101 tw_1294) hdX11_swing ⟨rfl, rfl, Nat.le_of_ble_eq_true rfl, Nat.le_of_ble_eq_true rfl⟩ ⟨Nat.le_of_ble_eq_true rfl, Nat.le_of_ble_eq_true rfl⟩ rfl rfl rfl hl.1 rfl (Nat.le_of_ble_eq_true rfl) dL_law_1777 (fun r_3 hr_3 => ?_)
  obtain rfl : r_3 = (-2) := hr_3
  refine lv_aload_n hx hb dL_law_1780 rfl (lv_at hl 1 rfl) ?_
  refine lv_aload_n hx hb dL_law_1781 rfl (lv_at hl 3 rfl) ?_
  refine lv_iload_n hx hb dL_law_1782 rfl (lv_at hl 0 rfl) ?_
  refine lv_iconst (v := 1) hx hb dL_law_1783 (by decide) ?_
  refine lv_iadd hx hb dL_law_1784 ?_
  refine lv_topi (fun x_4 ex_4 => ?_)
  obtain rfl : x_4 = 1 := ex_4.trans (by decide)
  refine va_sld hx hb hX hbl hbA hS (L := 6) (by unfold vp_in; decide) dL_law_1785 ?_
  refine W.eq (g2 := F0 m 1786 ls [.int (xs 1), .ref qm, .int (-2)]) rfl ?_
  refine lv_aload_n hx hb dL_law_1786 rfl (lv_at hl 3 rfl) ?_
  refine lv_iload_n hx hb dL_law_1787 rfl (lv_at hl 0 rfl) ?_
  refine lv_iconst (v := 2) hx hb dL_law_1788 (by decide) ?_
  refine lv_iadd hx hb dL_law_1789 ?_
  refine lv_topi (fun x_5 ex_5 => ?_)
  obtain rfl : x_5 = 2 := ex_5.trans (by decide)
  refine va_sld hx hb hX hbl hbA hS (L := 6) (by unfold vp_in; decide) dL_law_1790 ?_
  refine W.eq (g2 := F0 m 1791 ls [.int (xs 2), .int (xs 1), .ref qm, .int (-2)]) rfl ?_
  refine cpVi (rest := [.int (-2)]) ⟨hx, hb, hml, hown, hts⟩ hKN (hP.sub (ws' := [(qm, .inr (12, [.int 0, .ref (v.1 0), .ref (v.1 1), .ref (v.1 2), .ref (v.1 3), .int 0, .ref (v.1 4), .int 0, .int 0, .int 0, .int 0, .int 0, .int 0, .int (-1), .ref (v.1 5), .int 0, .int 0, .int 0, .int 0, .int 0, .int 0, .ref (v.1 6), .ref (v.1 7), .ref (v.1 8), .ref (v.1 9), .int 0, .int 0, .ref (v.1 10), .int 0, .ref (v.1 11), .int 0, .ref (v.1 12), .ref (v.1 13), .ref (v.1 14), .ref (v.1 15)])), ((v.1 0), .inl (cA 1, 122, .inl (fun _ => 0)))]) [2, 3] rfl) (k_X12_swing l D cA qm (v.1 0) (v.1 1) (v.1 2) (v.1 3) (v.1 4) (v.1 5) (v.1 6) (v.1 7) (v.1 8) (v.1 9) (v.1 10) (v.1 11) (v.1 12) (v.1 13) (v.1 14) (v.1 15) (xs 1) (xs 2)) (tb_V tw_2082 tw_2083 tw_2084 tw_114 tw_2085) hdX12_swing ⟨rfl, rfl, Nat.le_of_ble_eq_true rfl, Nat.le_of_ble_eq_true rfl⟩ ⟨Nat.le_of_ble_eq_true rfl, Nat.le_of_ble_eq_true rfl⟩ rfl rfl rfl hl.1 rfl (Nat.le_of_ble_eq_true rfl) dL_law_1791 (fun r_6 hr_6 => ?_)
  obtain rfl : r_6 = (-2) := hr_6
  refine lv_icmp_eq (tgt := 2271) hx hb dL_law_1794 (by decide) (fun c_7 => ?_) (fun c_7 => absurd (by decide) c_7)
  exact lawEnd l C0 hS (Nat.le_of_ble_eq_true rfl) (Nat.le_of_ble_eq_true rfl) (lv_sub hl [0, 1, 2, 3] rfl)
set_option maxHeartbeats 4000000 in
set_option maxRecDepth 100000 in
theorem law_c59 {p : Program} {e : Env} {s : State} {m : MethodId} {below : List Frame} {meth : Method} {c : Code} (l : Launch) {b : Nat} {xs : Nat → Int32} (C0 : lw_At p s m meth c b 6 xs) (D : va_G) (cA : Nat → ClassId) (hKN : KN D cA s) {H : Heap} {locs : List Loc} {ls : Array Slot} (qx qm : Nat) (u v : SU) (hP : va_P D vwCl (wXM cA qx qm u v) H) (hD : va_D (fun q : Nat => s.heap.size ≤ q) (wXM cA qx qm u v)) (hS : va_S (fun q : Nat => s.heap.size ≤ q) s.heap H locs) (hl : lv_has ls 4 [(3, .int 0), (2, .ref qm), (1, .ref qx), (0, .ref b)]) : W p l e room_1 s m #[Value.ref b] below meth c H locs 104 9712 (lw_Z below #[Value.ref b] s) (F0 m 1799 ls []) := by
  obtain ⟨hx, hb, hr, hml, hown, hts0, hX, hbl, hlocks, hgv⟩ := id C0
  have hts : ∀ w ∈ TB, w.before _ s = true := fun w h => hts0 w (List.mem_filter.mp h).1
  have hb : c.code = cL_law := hb
  have hown : s.vm.findClass "WristTreatyLaw" = some m.cls := hown
  have hA : ∀ q : Nat, s.heap.size ≤ q → (fun q : Nat => s.heap.size ≤ q) q := fun _ h => h
  have hbA : ¬ (fun q : Nat => s.heap.size ≤ q) b := Nat.not_le.mpr hbl
  have hP := hP.sub (ws' := [(qx, .inr (11, [.ref (u.1 0), .ref (u.1 2), .ref (u.1 13), .ref (u.1 22), .ref (u.1 26), .ref (u.1 69), .ref (u.1 73), .ref (u.1 74), .ref (u.1 77), .ref (u.1 79), .ref (u.1 83)])), ((u.1 13), .inr (3, [.int 0, .int 0, .int 0, .int 0, .int 0, .int 0, .int 0, .int 0, .ref (u.1 14), .ref (u.1 15), .ref (u.1 16), .ref (u.1 17), .ref (u.1 18), .ref (u.1 19), .ref (u.1 20), .ref (u.1 21)])), (qm, .inr (12, [.int 0, .ref (v.1 0), .ref (v.1 1), .ref (v.1 2), .ref (v.1 3), .int 0, .ref (v.1 4), .int 0, .int 0, .int 0, .int 0, .int 0, .int 0, .int (-1), .ref (v.1 5), .int 0, .int 0, .int 0, .int 0, .int 0, .int 0, .ref (v.1 6), .ref (v.1 7), .ref (v.1 8), .ref (v.1 9), .int 0, .int 0, .ref (v.1 10), .int 0, .ref (v.1 11), .int 0, .ref (v.1 12), .ref (v.1 13), .ref (v.1 14), .ref (v.1 15)])), ((v.1 0), .inl (cA 1, 122, .inl (fun _ => 0)))]) [0, 14, 87, 88] rfl
  have hD := hD.sub (ws' := [(qx, .inr (11, [.ref (u.1 0), .ref (u.1 2), .ref (u.1 13), .ref (u.1 22), .ref (u.1 26), .ref (u.1 69), .ref (u.1 73), .ref (u.1 74), .ref (u.1 77), .ref (u.1 79), .ref (u.1 83)])), ((u.1 13), .inr (3, [.int 0, .int 0, .int 0, .int 0, .int 0, .int 0, .int 0, .int 0, .ref (u.1 14), .ref (u.1 15), .ref (u.1 16), .ref (u.1 17), .ref (u.1 18), .ref (u.1 19), .ref (u.1 20), .ref (u.1 21)])), (qm, .inr (12, [.int 0, .ref (v.1 0), .ref (v.1 1), .ref (v.1 2), .ref (v.1 3), .int 0, .ref (v.1 4), .int 0, .int 0, .int 0, .int 0, .int 0, .int 0, .int (-1), .ref (v.1 5), .int 0, .int 0, .int 0, .int 0, .int 0, .int 0, .ref (v.1 6), .ref (v.1 7), .ref (v.1 8), .ref (v.1 9), .int 0, .int 0, .ref (v.1 10), .int 0, .ref (v.1 11), .int 0, .ref (v.1 12), .ref (v.1 13), .ref (v.1 14), .ref (v.1 15)])), ((v.1 0), .inl (cA 1, 122, .inl (fun _ => 0)))]) [0, 14, 87, 88] (by decide) rfl
  refine lv_aload_n hx hb dL_law_1799 rfl (lv_at hl 2 rfl) ?_
  refine lv_aload_n hx hb dL_law_1800 rfl (lv_at hl 3 rfl) ?_
  refine lv_iload_n hx hb dL_law_1801 rfl (lv_at hl 0 rfl) ?_
  refine lv_iconst (v := 1) hx hb dL_law_1802 (by decide) ?_
  refine lv_iadd hx hb dL_law_1803 ?_
  refine lv_topi (fun x_1 ex_1 => ?_)
  obtain rfl : x_1 = 1 := ex_1.trans (by decide)
  refine va_sld hx hb hX hbl hbA hS (L := 6) (by unfold vp_in; decide) dL_law_1804 ?_
  refine W.eq (g2 := F0 m 1805 ls [.int (xs 1), .ref qx]) rfl ?_
  refine cpVi (rest := []) ⟨hx, hb, hml, hown, hts⟩ hKN (hP.sub (ws' := [(qx, .inr (11, [.ref (u.1 0), .ref (u.1 2), .ref (u.1 13), .ref (u.1 22), .ref (u.1 26), .ref (u.1 69), .ref (u.1 73), .ref (u.1 74), .ref (u.1 77), .ref (u.1 79), .ref (u.1 83)])), ((u.1 13), .inr (3, [.int 0, .int 0, .int 0, .int 0, .int 0, .int 0, .int 0, .int 0, .ref (u.1 14), .ref (u.1 15), .ref (u.1 16), .ref (u.1 17), .ref (u.1 18), .ref (u.1 19), .ref (u.1 20), .ref (u.1 21)]))]) [0, 1] rfl) (k_X11_sign l D cA qx (u.1 0) (u.1 2) (u.1 13) (u.1 22) (u.1 26) (u.1 69) (u.1 73) (u.1 74) (u.1 77) (u.1 79) (u.1 83) (u.1 14) (u.1 15) (u.1 16) (u.1 17) (u.1 18) (u.1 19) (u.1 20) (u.1 21) (xs 1)) (tb_V tw_1299 tw_1300 tw_1301 tw_101 tw_1302) hdX11_sign ⟨rfl, rfl, Nat.le_of_ble_eq_true rfl, Nat.le_of_ble_eq_true rfl⟩ ⟨Nat.le_of_ble_eq_true rfl, Nat.le_of_ble_eq_true rfl⟩ rfl rfl rfl hl.1 rfl (Nat.le_of_ble_eq_true rfl) dL_law_1805 (fun r_2 hr_2 => ?_)
  obtain rfl : r_2 = (-2) := hr_2
  refine lv_aload_n hx hb dL_law_1808 rfl (lv_at hl 1 rfl) ?_
  refine lv_aload_n hx hb dL_law_1809 rfl (lv_at hl 3 rfl) ?_
  refine lv_iload_n hx hb dL_law_1810 rfl (lv_at hl 0 rfl) ?_
  refine lv_iconst (v := 1) hx hb dL_law_1811 (by decide) ?_
  refine lv_iadd hx hb dL_law_1812 ?_
  refine lv_topi (fun x_3 ex_3 => ?_)
  obtain rfl : x_3 = 1 := ex_3.trans (by decide)
  refine va_sld hx hb hX hbl hbA hS (L := 6) (by unfold vp_in; decide) dL_law_1813 ?_
  refine W.eq (g2 := F0 m 1814 ls [.int (xs 1), .ref qm, .int (-2)]) rfl ?_
  refine cpVi (rest := [.int (-2)]) ⟨hx, hb, hml, hown, hts⟩ hKN (hP.sub (ws' := [(qm, .inr (12, [.int 0, .ref (v.1 0), .ref (v.1 1), .ref (v.1 2), .ref (v.1 3), .int 0, .ref (v.1 4), .int 0, .int 0, .int 0, .int 0, .int 0, .int 0, .int (-1), .ref (v.1 5), .int 0, .int 0, .int 0, .int 0, .int 0, .int 0, .ref (v.1 6), .ref (v.1 7), .ref (v.1 8), .ref (v.1 9), .int 0, .int 0, .ref (v.1 10), .int 0, .ref (v.1 11), .int 0, .ref (v.1 12), .ref (v.1 13), .ref (v.1 14), .ref (v.1 15)])), ((v.1 0), .inl (cA 1, 122, .inl (fun _ => 0)))]) [2, 3] rfl) (k_X12_sign l D cA qm (v.1 0) (v.1 1) (v.1 2) (v.1 3) (v.1 4) (v.1 5) (v.1 6) (v.1 7) (v.1 8) (v.1 9) (v.1 10) (v.1 11) (v.1 12) (v.1 13) (v.1 14) (v.1 15) (xs 1)) (tb_V tw_2086 tw_2087 tw_2088 tw_114 tw_2089) hdX12_sign ⟨rfl, rfl, Nat.le_of_ble_eq_true rfl, Nat.le_of_ble_eq_true rfl⟩ ⟨Nat.le_of_ble_eq_true rfl, Nat.le_of_ble_eq_true rfl⟩ rfl rfl rfl hl.1 rfl (Nat.le_of_ble_eq_true rfl) dL_law_1814 (fun r_4 hr_4 => ?_)
  obtain rfl : r_4 = (-2) := hr_4
  refine lv_icmp_eq (tgt := 2271) hx hb dL_law_1817 (by decide) (fun c_5 => ?_) (fun c_5 => absurd (by decide) c_5)
  exact lawEnd l C0 hS (Nat.le_of_ble_eq_true rfl) (Nat.le_of_ble_eq_true rfl) (lv_sub hl [0, 1, 2, 3] rfl)

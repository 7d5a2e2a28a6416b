set_option maxHeartbeats 4000000 in
set_option maxRecDepth 100000 in
theorem law_c0 {p : Program} {e : Env} {s : State} {m : MethodId} {below : List Frame} {meth : Method} {c : Code} (l : Launch) {b : Nat} {xs : Nat → Int32} (C0 : lw_At p s m meth c b 6 xs) (D : va_G) (cA : Nat → ClassId) (hKN : KN D cA s) {H : Heap} {locs : List Loc} {ls : Array Slot} (qx qm : Nat) (u v : SU) (hP : va_P D vwCl (wXM cA qx qm u v) H) (hD : va_D (fun q : Nat => s.heap.size ≤ q) (wXM cA qx qm u v)) (hS : va_S (fun q : Nat => s.heap.size ≤ q) s.heap H locs) (hl : lv_has ls 4 [(3, .int 0), (2, .ref qm), (1, .ref qx), (0, .ref b)]) : W p l e room_1 s m #[Value.ref b] below meth c H locs 104 9712 (lw_Z below #[Value.ref b] s) (F0 m 340 ls []) := by
  obtain ⟨hx, hb, hr, hml, hown, hts0, hX, hbl, hlocks, hgv⟩ := id C0
  have hts : ∀ w ∈ TB, w.before _ s = true := fun w h => hts0 w (List.mem_filter.mp h).1
  have hb : c.code = cL_law := hb
  have hown : s.vm.findClass "WristTreatyLaw" = some m.cls := hown
  have hA : ∀ q : Nat, s.heap.size ≤ q → (fun q : Nat => s.heap.size ≤ q) q := fun _ h => h
  have hbA : ¬ (fun q : Nat => s.heap.size ≤ q) b := Nat.not_le.mpr hbl
  have hP := hP.sub (ws' := [(qx, .inr (11, [.ref (u.1 0), .ref (u.1 2), .ref (u.1 13), .ref (u.1 22), .ref (u.1 26), .ref (u.1 69), .ref (u.1 73), .ref (u.1 74), .ref (u.1 77), .ref (u.1 79), .ref (u.1 83)])), ((u.1 0), .inr (9, [.ref (u.1 1), .int 0])), ((u.1 1), .inl (cA 0, 800, .inl (fun _ => 0))), (qm, .inr (12, [.int 0, .ref (v.1 0), .ref (v.1 1), .ref (v.1 2), .ref (v.1 3), .int 0, .ref (v.1 4), .int 0, .int 0, .int 0, .int 0, .int 0, .int 0, .int (-1), .ref (v.1 5), .int 0, .int 0, .int 0, .int 0, .int 0, .int 0, .ref (v.1 6), .ref (v.1 7), .ref (v.1 8), .ref (v.1 9), .int 0, .int 0, .ref (v.1 10), .int 0, .ref (v.1 11), .int 0, .ref (v.1 12), .ref (v.1 13), .ref (v.1 14), .ref (v.1 15)])), ((v.1 3), .inl (cA 0, 800, .inl (fun _ => 0))), ((v.1 4), .inl (cA 1, 5, .inl (fun _ => 0)))]) [0, 1, 2, 87, 91, 92] rfl
  have hD := hD.sub (ws' := [(qx, .inr (11, [.ref (u.1 0), .ref (u.1 2), .ref (u.1 13), .ref (u.1 22), .ref (u.1 26), .ref (u.1 69), .ref (u.1 73), .ref (u.1 74), .ref (u.1 77), .ref (u.1 79), .ref (u.1 83)])), ((u.1 0), .inr (9, [.ref (u.1 1), .int 0])), ((u.1 1), .inl (cA 0, 800, .inl (fun _ => 0))), (qm, .inr (12, [.int 0, .ref (v.1 0), .ref (v.1 1), .ref (v.1 2), .ref (v.1 3), .int 0, .ref (v.1 4), .int 0, .int 0, .int 0, .int 0, .int 0, .int 0, .int (-1), .ref (v.1 5), .int 0, .int 0, .int 0, .int 0, .int 0, .int 0, .ref (v.1 6), .ref (v.1 7), .ref (v.1 8), .ref (v.1 9), .int 0, .int 0, .ref (v.1 10), .int 0, .ref (v.1 11), .int 0, .ref (v.1 12), .ref (v.1 13), .ref (v.1 14), .ref (v.1 15)])), ((v.1 3), .inl (cA 0, 800, .inl (fun _ => 0))), ((v.1 4), .inl (cA 1, 5, .inl (fun _ => 0)))]) [0, 1, 2, 87, 91, 92] (by decide) rfl
  refine lv_aload_n hx hb dL_law_340 rfl (lv_at hl 2 rfl) ?_
  refine lv_aload_n hx hb dL_law_341 rfl (lv_at hl 3 rfl) ?_
  refine lv_iload_n hx hb dL_law_342 rfl (lv_at hl 0 rfl) ?_
  refine lv_iconst (v := 1) hx hb dL_law_343 (by decide) ?_
  refine lv_iadd hx hb dL_law_344 ?_
  refine lv_topi (fun x_1 ex_1 => ?_)
  obtain rfl : x_1 = 1 := ex_1.trans (by decide)
  refine va_sld hx hb hX hbl hbA hS (L := 6) (by unfold vp_in; decide) dL_law_345 ?_
  refine W.eq (g2 := F0 m 346 ls [.int (xs 1), .ref qx]) rfl ?_
  refine lv_aload_n hx hb dL_law_346 rfl (lv_at hl 3 rfl) ?_
  refine lv_iload_n hx hb dL_law_347 rfl (lv_at hl 0 rfl) ?_
  refine lv_iconst (v := 2) hx hb dL_law_348 (by decide) ?_
  refine lv_iadd hx hb dL_law_349 ?_
  refine lv_topi (fun x_2 ex_2 => ?_)
  obtain rfl : x_2 = 2 := ex_2.trans (by decide)
  refine va_sld hx hb hX hbl hbA hS (L := 6) (by unfold vp_in; decide) dL_law_350 ?_
  refine W.eq (g2 := F0 m 351 ls [.int (xs 2), .int (xs 1), .ref qx]) rfl ?_
  refine lv_aload_n hx hb dL_law_351 rfl (lv_at hl 3 rfl) ?_
  refine lv_iload_n hx hb dL_law_352 rfl (lv_at hl 0 rfl) ?_
  refine lv_iconst (v := 3) hx hb dL_law_353 (by decide) ?_
  refine lv_iadd hx hb dL_law_354 ?_
  refine lv_topi (fun x_3 ex_3 => ?_)
  obtain rfl : x_3 = 3 := ex_3.trans (by decide)
  refine va_sld hx hb hX hbl hbA hS (L := 6) (by unfold vp_in; decide) dL_law_355 ?_
  refine W.eq (g2 := F0 m 356 ls [.int (xs 3), .int (xs 2), .int (xs 1), .ref qx]) rfl ?_
  refine lv_aload_n hx hb dL_law_356 rfl (lv_at hl 3 rfl) ?_
  refine lv_iload_n hx hb dL_law_357 rfl (lv_at hl 0 rfl) ?_
  refine lv_iconst (v := 4) hx hb dL_law_358 (by decide) ?_
  refine lv_iadd hx hb dL_law_359 ?_
  refine lv_topi (fun x_4 ex_4 => ?_)
  obtain rfl : x_4 = 4 := ex_4.trans (by decide)
  refine va_sld hx hb hX hbl hbA hS (L := 6) (by unfold vp_in; decide) dL_law_360 ?_
  refine W.eq (g2 := F0 m 361 ls [.int (xs 4), .int (xs 3), .int (xs 2), .int (xs 1), .ref qx]) rfl ?_
  refine lv_aload_n hx hb dL_law_361 rfl (lv_at hl 3 rfl) ?_
  refine lv_iload_n hx hb dL_law_362 rfl (lv_at hl 0 rfl) ?_
  refine lv_iconst (v := 5) hx hb dL_law_363 (by decide) ?_
  refine lv_iadd hx hb dL_law_364 ?_
  refine lv_topi (fun x_5 ex_5 => ?_)
  obtain rfl : x_5 = 5 := ex_5.trans (by decide)
  refine va_sld hx hb hX hbl hbA hS (L := 6) (by unfold vp_in; decide) dL_law_365 ?_
  refine W.eq (g2 := F0 m 366 ls [.int (xs 5), .int (xs 4), .int (xs 3), .int (xs 2), .int (xs 1), .ref qx]) rfl ?_
  refine cmVi (rest := []) (wsC := [(qx, .inr (11, [.ref (u.1 0), .ref (u.1 2), .ref (u.1 13), .ref (u.1 22), .ref (u.1 26), .ref (u.1 69), .ref (u.1 73), .ref (u.1 74), .ref (u.1 77), .ref (u.1 79), .ref (u.1 83)])), ((u.1 0), .inr (9, [.ref (u.1 1), .int 0])), ((u.1 1), .inl (cA 0, 800, .inl (fun _ => 0)))]) (wr := [(qm, .inr (12, [.int 0, .ref (v.1 0), .ref (v.1 1), .ref (v.1 2), .ref (v.1 3), .int 0, .ref (v.1 4), .int 0, .int 0, .int 0, .int 0, .int 0, .int 0, .int (-1), .ref (v.1 5), .int 0, .int 0, .int 0, .int 0, .int 0, .int 0, .ref (v.1 6), .ref (v.1 7), .ref (v.1 8), .ref (v.1 9), .int 0, .int 0, .ref (v.1 10), .int 0, .ref (v.1 11), .int 0, .ref (v.1 12), .ref (v.1 13), .ref (v.1 14), .ref (v.1 15)])), ((v.1 3), .inl (cA 0, 800, .inl (fun _ => 0))), ((v.1 4), .inl (cA 1, 5, .inl (fun _ => 0)))]) ⟨hx, hb, hml, hown, hts⟩ hKN hP hD hS hA [0, 1, 2] [3, 4, 5] rfl rfl (by decide) (by decide) (by decide) (k_X11_feed l D cA _ qx (u.1 0) (u.1 2) (u.1 13) (u.1 22) (u.1 26) (u.1 69) (u.1 73) (u.1 74) (u.1 77) (u.1 79) (u.1 83) (u.1 1) (fun _ => 0) (xs 1) (xs 2) (xs 3) (xs 4) (xs 5)) (tb_V tw_499 tw_500 tw_501 tw_101 tw_502) hdX11_feed ⟨rfl, rfl, Nat.le_of_ble_eq_true rfl, Nat.le_of_ble_eq_true rfl⟩ ⟨Nat.le_of_ble_eq_true rfl, Nat.le_of_ble_eq_true rfl⟩ rfl rfl rfl hl.1 rfl (Nat.le_of_ble_eq_true rfl) dL_law_366 (fun r_6 u_6 H locs hr_6 hP hD hS => ?_)
  have hP : va_P D vwCl [(qm, .inr (12, [.int 0, .ref (v.1 0), .ref (v.1 1), .ref (v.1 2), .ref (v.1 3), .int 0, .ref (v.1 4), .int 0, .int 0, .int 0, .int 0, .int 0, .int 0, .int (-1), .ref (v.1 5), .int 0, .int 0, .int 0, .int 0, .int 0, .int 0, .ref (v.1 6), .ref (v.1 7), .ref (v.1 8), .ref (v.1 9), .int 0, .int 0, .ref (v.1 10), .int 0, .ref (v.1 11), .int 0, .ref (v.1 12), .ref (v.1 13), .ref (v.1 14), .ref (v.1 15)])), ((v.1 3), .inl (cA 0, 800, .inl (fun _ => 0))), ((v.1 4), .inl (cA 1, 5, .inl (fun _ => 0)))] H := hP
  have hD : va_D (fun q : Nat => s.heap.size ≤ q) [(qm, .inr (12, [.int 0, .ref (v.1 0), .ref (v.1 1), .ref (v.1 2), .ref (v.1 3), .int 0, .ref (v.1 4), .int 0, .int 0, .int 0, .int 0, .int 0, .int 0, .int (-1), .ref (v.1 5), .int 0, .int 0, .int 0, .int 0, .int 0, .int 0, .ref (v.1 6), .ref (v.1 7), .ref (v.1 8), .ref (v.1 9), .int 0, .int 0, .ref (v.1 10), .int 0, .ref (v.1 11), .int 0, .ref (v.1 12), .ref (v.1 13), .ref (v.1 14), .ref (v.1 15)])), ((v.1 3), .inl (cA 0, 800, .inl (fun _ => 0))), ((v.1 4), .inl (cA 1, 5, .inl (fun _ => 0)))] := hD
  obtain rfl : r_6 = 20 := hr_6
  refine lv_aload_n hx hb dL_law_369 rfl (lv_at hl 1 rfl) ?_
  refine lv_aload_n hx hb dL_law_370 rfl (lv_at hl 3 rfl) ?_
  refine lv_iload_n hx hb dL_law_371 rfl (lv_at hl 0 rfl) ?_
  refine lv_iconst (v := 1) hx hb dL_law_372 (by decide) ?_
  refine lv_iadd hx hb dL_law_373 ?_
  refine lv_topi (fun x_7 ex_7 => ?_)
  obtain rfl : x_7 = 1 := ex_7.trans (by decide)
  refine va_sld hx hb hX hbl hbA hS (L := 6) (by unfold vp_in; decide) dL_law_374 ?_
  refine W.eq (g2 := F0 m 375 ls [.int (xs 1), .ref qm, .int 20]) rfl ?_
  refine lv_aload_n hx hb dL_law_375 rfl (lv_at hl 3 rfl) ?_
  refine lv_iload_n hx hb dL_law_376 rfl (lv_at hl 0 rfl) ?_
  refine lv_iconst (v := 2) hx hb dL_law_377 (by decide) ?_
  refine lv_iadd hx hb dL_law_378 ?_
  refine lv_topi (fun x_8 ex_8 => ?_)
  obtain rfl : x_8 = 2 := ex_8.trans (by decide)
  refine va_sld hx hb hX hbl hbA hS (L := 6) (by unfold vp_in; decide) dL_law_379 ?_
  refine W.eq (g2 := F0 m 380 ls [.int (xs 2), .int (xs 1), .ref qm, .int 20]) rfl ?_
  refine lv_aload_n hx hb dL_law_380 rfl (lv_at hl 3 rfl) ?_
  refine lv_iload_n hx hb dL_law_381 rfl (lv_at hl 0 rfl) ?_
  refine lv_iconst (v := 3) hx hb dL_law_382 (by decide) ?_
  refine lv_iadd hx hb dL_law_383 ?_
  refine lv_topi (fun x_9 ex_9 => ?_)
  obtain rfl : x_9 = 3 := ex_9.trans (by decide)
  refine va_sld hx hb hX hbl hbA hS (L := 6) (by unfold vp_in; decide) dL_law_384 ?_
  refine W.eq (g2 := F0 m 385 ls [.int (xs 3), .int (xs 2), .int (xs 1), .ref qm, .int 20]) rfl ?_
  refine lv_aload_n hx hb dL_law_385 rfl (lv_at hl 3 rfl) ?_
  refine lv_iload_n hx hb dL_law_386 rfl (lv_at hl 0 rfl) ?_
  refine lv_iconst (v := 4) hx hb dL_law_387 (by decide) ?_
  refine lv_iadd hx hb dL_law_388 ?_
  refine lv_topi (fun x_10 ex_10 => ?_)
  obtain rfl : x_10 = 4 := ex_10.trans (by decide)
  refine va_sld hx hb hX hbl hbA hS (L := 6) (by unfold vp_in; decide) dL_law_389 ?_
  refine W.eq (g2 := F0 m 390 ls [.int (xs 4), .int (xs 3), .int (xs 2), .int (xs 1), .ref qm, .int 20]) rfl ?_
  refine lv_aload_n hx hb dL_law_390 rfl (lv_at hl 3 rfl) ?_
  refine lv_iload_n hx hb dL_law_391 rfl (lv_at hl 0 rfl) ?_
  refine lv_iconst (v := 5) hx hb dL_law_392 (by decide) ?_
  refine lv_iadd hx hb dL_law_393 ?_
  refine lv_topi (fun x_11 ex_11 => ?_)
  obtain rfl : x_11 = 5 := ex_11.trans (by decide)
  refine va_sld hx hb hX hbl hbA hS (L := 6) (by unfold vp_in; decide) dL_law_394 ?_
  refine W.eq (g2 := F0 m 395 ls [.int (xs 5), .int (xs 4), .int (xs 3), .int (xs 2), .int (xs 1), .ref qm, .int 20]) rfl ?_
  refine cmVi (rest := [.int 20]) (wsC := [(qm, .inr (12, [.int 0, .ref (v.1 0), .ref (v.1 1), .ref (v.1 2), .ref (v.1 3), .int 0, .ref (v.1 4), .int 0, .int 0, .int 0, .int 0, .int 0, .int 0, .int (-1), .ref (v.1 5), .int 0, .int 0, .int 0, .int 0, .int 0, .int 0, .ref (v.1 6), .ref (v.1 7), .ref (v.1 8), .ref (v.1 9), .int 0, .int 0, .ref (v.1 10), .int 0, .ref (v.1 11), .int 0, .ref (v.1 12), .ref (v.1 13), .ref (v.1 14), .ref (v.1 15)])), ((v.1 4), .inl (cA 1, 5, .inl (fun _ => 0))), ((v.1 3), .inl (cA 0, 800, .inl (fun _ => 0)))]) (wr := []) ⟨hx, hb, hml, hown, hts⟩ hKN hP hD hS hA [0, 2, 1] [] rfl rfl (by decide) (by decide) (by decide) (k_X12_feed l D cA _ qm (v.1 0) (v.1 1) (v.1 2) (v.1 3) (v.1 4) (v.1 5) (v.1 6) (v.1 7) (v.1 8) (v.1 9) (v.1 10) (v.1 11) (v.1 12) (v.1 13) (v.1 14) (v.1 15) (fun _ => 0) (fun _ => 0) (xs 1) (xs 2) (xs 3) (xs 4) (xs 5)) (tb_V tw_1537 tw_1538 tw_1539 tw_114 tw_1540) hdX12_feed ⟨rfl, rfl, Nat.le_of_ble_eq_true rfl, Nat.le_of_ble_eq_true rfl⟩ ⟨Nat.le_of_ble_eq_true rfl, Nat.le_of_ble_eq_true rfl⟩ rfl rfl rfl hl.1 rfl (Nat.le_of_ble_eq_true rfl) dL_law_395 (fun r_12 u_12 H locs hr_12 hP hD hS => ?_)
  have hP : va_P D vwCl [] H := hP
  have hD : va_D (fun q : Nat => s.heap.size ≤ q) [] := hD
  obtain rfl : r_12 = 20 := hr_12
  refine lv_icmp_eq (tgt := 2271) hx hb dL_law_398 (by decide) (fun c_13 => ?_) (fun c_13 => absurd (by decide) c_13)
  exact lawEnd l C0 hS (Nat.le_of_ble_eq_true rfl) (Nat.le_of_ble_eq_true rfl) (lv_sub hl [0, 1, 2, 3] rfl)
set_option maxHeartbeats 4000000 in
set_option maxRecDepth 100000 in
theorem law_c1 {p : Program} {e : Env} {s : State} {m : MethodId} {below : List Frame} {meth : Method} {c : Code} (l : Launch) {b : Nat} {xs : Nat → Int32} (C0 : lw_At p s m meth c b 6 xs) (D : va_G) (cA : Nat → ClassId) (hKN : KN D cA s) {H : Heap} {locs : List Loc} {ls : Array Slot} (qx qm : Nat) (u v : SU) (hP : va_P D vwCl (wXM cA qx qm u v) H) (hD : va_D (fun q : Nat => s.heap.size ≤ q) (wXM cA qx qm u v)) (hS : va_S (fun q : Nat => s.heap.size ≤ q) s.heap H locs) (hl : lv_has ls 4 [(3, .int 0), (2, .ref qm), (1, .ref qx), (0, .ref b)]) : W p l e room_1 s m #[Value.ref b] below meth c H locs 104 9712 (lw_Z below #[Value.ref b] s) (F0 m 403 ls []) := by
  obtain ⟨hx, hb, hr, hml, hown, hts0, hX, hbl, hlocks, hgv⟩ := id C0
  have hts : ∀ w ∈ TB, w.before _ s = true := fun w h => hts0 w (List.mem_filter.mp h).1
  have hb : c.code = cL_law := hb
  have hown : s.vm.findClass "WristTreatyLaw" = some m.cls := hown
  have hA : ∀ q : Nat, s.heap.size ≤ q → (fun q : Nat => s.heap.size ≤ q) q := fun _ h => h
  have hbA : ¬ (fun q : Nat => s.heap.size ≤ q) b := Nat.not_le.mpr hbl
  have hP := hP.sub (ws' := [(qx, .inr (11, [.ref (u.1 0), .ref (u.1 2), .ref (u.1 13), .ref (u.1 22), .ref (u.1 26), .ref (u.1 69), .ref (u.1 73), .ref (u.1 74), .ref (u.1 77), .ref (u.1 79), .ref (u.1 83)])), ((u.1 0), .inr (9, [.ref (u.1 1), .int 0])), (qm, .inr (12, [.int 0, .ref (v.1 0), .ref (v.1 1), .ref (v.1 2), .ref (v.1 3), .int 0, .ref (v.1 4), .int 0, .int 0, .int 0, .int 0, .int 0, .int 0, .int (-1), .ref (v.1 5), .int 0, .int 0, .int 0, .int 0, .int 0, .int 0, .ref (v.1 6), .ref (v.1 7), .ref (v.1 8), .ref (v.1 9), .int 0, .int 0, .ref (v.1 10), .int 0, .ref (v.1 11), .int 0, .ref (v.1 12), .ref (v.1 13), .ref (v.1 14), .ref (v.1 15)]))]) [0, 1, 87] rfl
  have hD := hD.sub (ws' := [(qx, .inr (11, [.ref (u.1 0), .ref (u.1 2), .ref (u.1 13), .ref (u.1 22), .ref (u.1 26), .ref (u.1 69), .ref (u.1 73), .ref (u.1 74), .ref (u.1 77), .ref (u.1 79), .ref (u.1 83)])), ((u.1 0), .inr (9, [.ref (u.1 1), .int 0])), (qm, .inr (12, [.int 0, .ref (v.1 0), .ref (v.1 1), .ref (v.1 2), .ref (v.1 3), .int 0, .ref (v.1 4), .int 0, .int 0, .int 0, .int 0, .int 0, .int 0, .int (-1), .ref (v.1 5), .int 0, .int 0, .int 0, .int 0, .int 0, .int 0, .ref (v.1 6), .ref (v.1 7), .ref (v.1 8), .ref (v.1 9), .int 0, .int 0, .ref (v.1 10), .int 0, .ref (v.1 11), .int 0, .ref (v.1 12), .ref (v.1 13), .ref (v.1 14), .ref (v.1 15)]))]) [0, 1, 87] (by decide) rfl
  refine lv_aload_n hx hb dL_law_403 rfl (lv_at hl 2 rfl) ?_
  refine lv_aload_n hx hb dL_law_404 rfl (lv_at hl 3 rfl) ?_
  refine lv_iload_n hx hb dL_law_405 rfl (lv_at hl 0 rfl) ?_
  refine lv_iconst (v := 1) hx hb dL_law_406 (by decide) ?_
  refine lv_iadd hx hb dL_law_407 ?_
  refine lv_topi (fun x_1 ex_1 => ?_)
  obtain rfl : x_1 = 1 := ex_1.trans (by decide)
  refine va_sld hx hb hX hbl hbA hS (L := 6) (by unfold vp_in; decide) dL_law_408 ?_
  refine W.eq (g2 := F0 m 409 ls [.int (xs 1), .ref qx]) rfl ?_
  refine cmVi (rest := []) (wsC := [(qx, .inr (11, [.ref (u.1 0), .ref (u.1 2), .ref (u.1 13), .ref (u.1 22), .ref (u.1 26), .ref (u.1 69), .ref (u.1 73), .ref (u.1 74), .ref (u.1 77), .ref (u.1 79), .ref (u.1 83)])), ((u.1 0), .inr (9, [.ref (u.1 1), .int 0]))]) (wr := [(qm, .inr (12, [.int 0, .ref (v.1 0), .ref (v.1 1), .ref (v.1 2), .ref (v.1 3), .int 0, .ref (v.1 4), .int 0, .int 0, .int 0, .int 0, .int 0, .int 0, .int (-1), .ref (v.1 5), .int 0, .int 0, .int 0, .int 0, .int 0, .int 0, .ref (v.1 6), .ref (v.1 7), .ref (v.1 8), .ref (v.1 9), .int 0, .int 0, .ref (v.1 10), .int 0, .ref (v.1 11), .int 0, .ref (v.1 12), .ref (v.1 13), .ref (v.1 14), .ref (v.1 15)]))]) ⟨hx, hb, hml, hown, hts⟩ hKN hP hD hS hA [0, 1] [2] rfl rfl (by decide) (by decide) (by decide) (k_X11_end l D cA _ qx (u.1 0) (u.1 2) (u.1 13) (u.1 22) (u.1 26) (u.1 69) (u.1 73) (u.1 74) (u.1 77) (u.1 79) (u.1 83) (u.1 1) (xs 1)) (tb_V tw_511 tw_512 tw_513 tw_101 tw_514) hdX11_end ⟨rfl, rfl, Nat.le_of_ble_eq_true rfl, Nat.le_of_ble_eq_true rfl⟩ ⟨Nat.le_of_ble_eq_true rfl, Nat.le_of_ble_eq_true rfl⟩ rfl rfl rfl hl.1 rfl (Nat.le_of_ble_eq_true rfl) dL_law_409 (fun r_2 u_2 H locs hr_2 hP hD hS => ?_)
  have hP : va_P D vwCl [(qm, .inr (12, [.int 0, .ref (v.1 0), .ref (v.1 1), .ref (v.1 2), .ref (v.1 3), .int 0, .ref (v.1 4), .int 0, .int 0, .int 0, .int 0, .int 0, .int 0, .int (-1), .ref (v.1 5), .int 0, .int 0, .int 0, .int 0, .int 0, .int 0, .ref (v.1 6), .ref (v.1 7), .ref (v.1 8), .ref (v.1 9), .int 0, .int 0, .ref (v.1 10), .int 0, .ref (v.1 11), .int 0, .ref (v.1 12), .ref (v.1 13), .ref (v.1 14), .ref (v.1 15)]))] H := hP
  have hD : va_D (fun q : Nat => s.heap.size ≤ q) [(qm, .inr (12, [.int 0, .ref (v.1 0), .ref (v.1 1), .ref (v.1 2), .ref (v.1 3), .int 0, .ref (v.1 4), .int 0, .int 0, .int 0, .int 0, .int 0, .int 0, .int (-1), .ref (v.1 5), .int 0, .int 0, .int 0, .int 0, .int 0, .int 0, .ref (v.1 6), .ref (v.1 7), .ref (v.1 8), .ref (v.1 9), .int 0, .int 0, .ref (v.1 10), .int 0, .ref (v.1 11), .int 0, .ref (v.1 12), .ref (v.1 13), .ref (v.1 14), .ref (v.1 15)]))] := hD
  rcases hr_2 with ⟨k_2_0, rfl⟩ | ⟨k_2_1, rfl⟩
  · skip
    refine lv_aload_n hx hb dL_law_412 rfl (lv_at hl 1 rfl) ?_
    refine lv_aload_n hx hb dL_law_413 rfl (lv_at hl 3 rfl) ?_
    refine lv_iload_n hx hb dL_law_414 rfl (lv_at hl 0 rfl) ?_
    refine lv_iconst (v := 1) hx hb dL_law_415 (by decide) ?_
    refine lv_iadd hx hb dL_law_416 ?_
    refine lv_topi (fun x_3 ex_3 => ?_)
    obtain rfl : x_3 = 1 := ex_3.trans (by decide)
    refine va_sld hx hb hX hbl hbA hS (L := 6) (by unfold vp_in; decide) dL_law_417 ?_
    refine W.eq (g2 := F0 m 418 ls [.int (xs 1), .ref qm, .int 0]) rfl ?_
    refine cmVi (rest := [.int 0]) (wsC := [(qm, .inr (12, [.int 0, .ref (v.1 0), .ref (v.1 1), .ref (v.1 2), .ref (v.1 3), .int 0, .ref (v.1 4), .int 0, .int 0, .int 0, .int 0, .int 0, .int 0, .int (-1), .ref (v.1 5), .int 0, .int 0, .int 0, .int 0, .int 0, .int 0, .ref (v.1 6), .ref (v.1 7), .ref (v.1 8), .ref (v.1 9), .int 0, .int 0, .ref (v.1 10), .int 0, .ref (v.1 11), .int 0, .ref (v.1 12), .ref (v.1 13), .ref (v.1 14), .ref (v.1 15)]))]) (wr := []) ⟨hx, hb, hml, hown, hts⟩ hKN hP hD hS hA [0] [] rfl rfl (by decide) (by decide) (by decide) (k_X12_end l D cA _ qm (v.1 0) (v.1 1) (v.1 2) (v.1 3) (v.1 4) (v.1 5) (v.1 6) (v.1 7) (v.1 8) (v.1 9) (v.1 10) (v.1 11) (v.1 12) (v.1 13) (v.1 14) (v.1 15) (xs 1)) (tb_V tw_1541 tw_1542 tw_1543 tw_114 tw_1544) hdX12_end ⟨rfl, rfl, Nat.le_of_ble_eq_true rfl, Nat.le_of_ble_eq_true rfl⟩ ⟨Nat.le_of_ble_eq_true rfl, Nat.le_of_ble_eq_true rfl⟩ rfl rfl rfl hl.1 rfl (Nat.le_of_ble_eq_true rfl) dL_law_418 (fun r_4 u_4 H locs hr_4 hP hD hS => ?_)
    have hP : va_P D vwCl [] H := hP
    have hD : va_D (fun q : Nat => s.heap.size ≤ q) [] := hD
    rcases hr_4 with ⟨k_4_0, rfl⟩ | ⟨k_4_1, rfl⟩
    · skip
      refine lv_icmp_eq (tgt := 2271) hx hb dL_law_421 (by decide) (fun c_5 => ?_) (fun c_5 => absurd (by decide) c_5)
      exact lawEnd l C0 hS (Nat.le_of_ble_eq_true rfl) (Nat.le_of_ble_eq_true rfl) (lv_sub hl [0, 1, 2, 3] rfl)
    · skip
      exfalso
      omega
  · skip
    refine lv_aload_n hx hb dL_law_412 rfl (lv_at hl 1 rfl) ?_
    refine lv_aload_n hx hb dL_law_413 rfl (lv_at hl 3 rfl) ?_
    refine lv_iload_n hx hb dL_law_414 rfl (lv_at hl 0 rfl) ?_
    refine lv_iconst (v := 1) hx hb dL_law_415 (by decide) ?_
    refine lv_iadd hx hb dL_law_416 ?_
    refine lv_topi (fun x_6 ex_6 => ?_)
    obtain rfl : x_6 = 1 := ex_6.trans (by decide)
    refine va_sld hx hb hX hbl hbA hS (L := 6) (by unfold vp_in; decide) dL_law_417 ?_
    refine W.eq (g2 := F0 m 418 ls [.int (xs 1), .ref qm, .int (-1)]) rfl ?_
    refine cmVi (rest := [.int (-1)]) (wsC := [(qm, .inr (12, [.int 0, .ref (v.1 0), .ref (v.1 1), .ref (v.1 2), .ref (v.1 3), .int 0, .ref (v.1 4), .int 0, .int 0, .int 0, .int 0, .int 0, .int 0, .int (-1), .ref (v.1 5), .int 0, .int 0, .int 0, .int 0, .int 0, .int 0, .ref (v.1 6), .ref (v.1 7), .ref (v.1 8), .ref (v.1 9), .int 0, .int 0, .ref (v.1 10), .int 0, .ref (v.1 11), .int 0, .ref (v.1 12), .ref (v.1 13), .ref (v.1 14), .ref (v.1 15)]))]) (wr := []) ⟨hx, hb, hml, hown, hts⟩ hKN hP hD hS hA [0] [] rfl rfl (by decide) (by decide) (by decide) (k_X12_end l D cA _ qm (v.1 0) (v.1 1) (v.1 2) (v.1 3) (v.1 4) (v.1 5) (v.1 6) (v.1 7) (v.1 8) (v.1 9) (v.1 10) (v.1 11) (v.1 12) (v.1 13) (v.1 14) (v.1 15) (xs 1)) (tb_V tw_1541 tw_1542 tw_1543 tw_114 tw_1544) hdX12_end ⟨rfl, rfl, Nat.le_of_ble_eq_true rfl, Nat.le_of_ble_eq_true rfl⟩ ⟨Nat.le_of_ble_eq_true rfl, Nat.le_of_ble_eq_true rfl⟩ rfl rfl rfl hl.1 rfl (Nat.le_of_ble_eq_true rfl) dL_law_418 (fun r_7 u_7 H locs hr_7 hP hD hS => ?_)
    have hP : va_P D vwCl [] H := hP
    have hD : va_D (fun q : Nat => s.heap.size ≤ q) [] := hD
    rcases hr_7 with ⟨k_7_0, rfl⟩ | ⟨k_7_1, rfl⟩
    · skip
      exfalso
      omega
    · skip
      refine lv_icmp_eq (tgt := 2271) hx hb dL_law_421 (by decide) (fun c_8 => ?_) (fun c_8 => absurd (by decide) c_8)
      exact lawEnd l C0 hS (Nat.le_of_ble_eq_true rfl) (Nat.le_of_ble_eq_true rfl) (lv_sub hl [0, 1, 2, 3] rfl)
set_option maxHeartbeats 4000000 in
set_option maxRecDepth 100000 in
theorem law_c2 {p : Program} {e : Env} {s : State} {m : MethodId} {below : List Frame} {meth : Method} {c : Code} (l : Launch) {b : Nat} {xs : Nat → Int32} (C0 : lw_At p s m meth c b 6 xs) (D : va_G) (cA : Nat → ClassId) (hKN : KN D cA s) {H : Heap} {locs : List Loc} {ls : Array Slot} (qx qm : Nat) (u v : SU) (hP : va_P D vwCl (wXM cA qx qm u v) H) (hD : va_D (fun q : Nat => s.heap.size ≤ q) (wXM cA qx qm u v)) (hS : va_S (fun q : Nat => s.heap.size ≤ q) s.heap H locs) (hl : lv_has ls 4 [(3, .int 0), (2, .ref qm), (1, .ref qx), (0, .ref b)]) : W p l e room_1 s m #[Value.ref b] below meth c H locs 104 9712 (lw_Z below #[Value.ref b] s) (F0 m 426 ls []) := by
  obtain ⟨hx, hb, hr, hml, hown, hts0, hX, hbl, hlocks, hgv⟩ := id C0
  have hts : ∀ w ∈ TB, w.before _ s = true := fun w h => hts0 w (List.mem_filter.mp h).1
  have hb : c.code = cL_law := hb
  have hown : s.vm.findClass "WristTreatyLaw" = some m.cls := hown
  have hA : ∀ q : Nat, s.heap.size ≤ q → (fun q : Nat => s.heap.size ≤ q) q := fun _ h => h
  have hbA : ¬ (fun q : Nat => s.heap.size ≤ q) b := Nat.not_le.mpr hbl
  have hP := hP.sub (ws' := [(qx, .inr (11, [.ref (u.1 0), .ref (u.1 2), .ref (u.1 13), .ref (u.1 22), .ref (u.1 26), .ref (u.1 69), .ref (u.1 73), .ref (u.1 74), .ref (u.1 77), .ref (u.1 79), .ref (u.1 83)])), ((u.1 0), .inr (9, [.ref (u.1 1), .int 0])), ((u.1 2), .inr (6, [.ref (u.1 3), .int 0, .int (-1), .ref (u.1 0), .int 0, .int 0, .int 0, .int 0, .int 0, .int 0, .int 0, .int 0, .ref (u.1 12)])), ((u.1 3), .inr (3, [.int 0, .int 0, .int 0, .int 0, .int 0, .int 0, .int 0, .int 0, .ref (u.1 4), .ref (u.1 5), .ref (u.1 6), .ref (u.1 7), .ref (u.1 8), .ref (u.1 9), .ref (u.1 10), .ref (u.1 11)])), ((u.1 4), .inl (cA 1, 8, .inl (fun _ => 0))), ((u.1 5), .inl (cA 1, 8, .inl (fun _ => 0))), ((u.1 6), .inl (cA 1, 8, .inl (fun _ => 0))), ((u.1 7), .inl (cA 1, 7, .inl (fun _ => 0))), ((u.1 8), .inl (cA 1, 7, .inl (fun _ => 0))), ((u.1 9), .inl (cA 1, 7, .inl (fun _ => 0))), ((u.1 10), .inl (cA 1, 4, .inl (fun _ => 0))), ((u.1 11), .inl (cA 1, 4, .inl (fun _ => 0))), ((u.1 13), .inr (3, [.int 0, .int 0, .int 0, .int 0, .int 0, .int 0, .int 0, .int 0, .ref (u.1 14), .ref (u.1 15), .ref (u.1 16), .ref (u.1 17), .ref (u.1 18), .ref (u.1 19), .ref (u.1 20), .ref (u.1 21)])), ((u.1 14), .inl (cA 1, 8, .inl (fun _ => 0))), ((u.1 15), .inl (cA 1, 8, .inl (fun _ => 0))), ((u.1 16), .inl (cA 1, 8, .inl (fun _ => 0))), ((u.1 17), .inl (cA 1, 7, .inl (fun _ => 0))), ((u.1 18), .inl (cA 1, 7, .inl (fun _ => 0))), ((u.1 19), .inl (cA 1, 7, .inl (fun _ => 0))), ((u.1 20), .inl (cA 1, 4, .inl (fun _ => 0))), ((u.1 21), .inl (cA 1, 4, .inl (fun _ => 0))), ((u.1 22), .inr (2, [.int (-1), .int (-1), .int 0, .int 0, .int 0, .int 0, .int 0, .ref (u.1 23), .ref (u.1 24), .ref (u.1 25)])), (qm, .inr (12, [.int 0, .ref (v.1 0), .ref (v.1 1), .ref (v.1 2), .ref (v.1 3), .int 0, .ref (v.1 4), .int 0, .int 0, .int 0, .int 0, .int 0, .int 0, .int (-1), .ref (v.1 5), .int 0, .int 0, .int 0, .int 0, .int 0, .int 0, .ref (v.1 6), .ref (v.1 7), .ref (v.1 8), .ref (v.1 9), .int 0, .int 0, .ref (v.1 10), .int 0, .ref (v.1 11), .int 0, .ref (v.1 12), .ref (v.1 13), .ref (v.1 14), .ref (v.1 15)])), ((v.1 0), .inl (cA 1, 122, .inl (fun _ => 0))), ((v.1 5), .inl (cA 1, 122, .inl (fun _ => 0)))]) [0, 1, 3, 4, 5, 6, 7, 8, 9, 10, 11, 12, 14, 15, 16, 17, 18, 19, 20, 21, 22, 23, 87, 88, 93] rfl
  have hD := hD.sub (ws' := [(qx, .inr (11, [.ref (u.1 0), .ref (u.1 2), .ref (u.1 13), .ref (u.1 22), .ref (u.1 26), .ref (u.1 69), .ref (u.1 73), .ref (u.1 74), .ref (u.1 77), .ref (u.1 79), .ref (u.1 83)])), ((u.1 0), .inr (9, [.ref (u.1 1), .int 0])), ((u.1 2), .inr (6, [.ref (u.1 3), .int 0, .int (-1), .ref (u.1 0), .int 0, .int 0, .int 0, .int 0, .int 0, .int 0, .int 0, .int 0, .ref (u.1 12)])), ((u.1 3), .inr (3, [.int 0, .int 0, .int 0, .int 0, .int 0, .int 0, .int 0, .int 0, .ref (u.1 4), .ref (u.1 5), .ref (u.1 6), .ref (u.1 7), .ref (u.1 8), .ref (u.1 9), .ref (u.1 10), .ref (u.1 11)])), ((u.1 4), .inl (cA 1, 8, .inl (fun _ => 0))), ((u.1 5), .inl (cA 1, 8, .inl (fun _ => 0))), ((u.1 6), .inl (cA 1, 8, .inl (fun _ => 0))), ((u.1 7), .inl (cA 1, 7, .inl (fun _ => 0))), ((u.1 8), .inl (cA 1, 7, .inl (fun _ => 0))), ((u.1 9), .inl (cA 1, 7, .inl (fun _ => 0))), ((u.1 10), .inl (cA 1, 4, .inl (fun _ => 0))), ((u.1 11), .inl (cA 1, 4, .inl (fun _ => 0))), ((u.1 13), .inr (3, [.int 0, .int 0, .int 0, .int 0, .int 0, .int 0, .int 0, .int 0, .ref (u.1 14), .ref (u.1 15), .ref (u.1 16), .ref (u.1 17), .ref (u.1 18), .ref (u.1 19), .ref (u.1 20), .ref (u.1 21)])), ((u.1 14), .inl (cA 1, 8, .inl (fun _ => 0))), ((u.1 15), .inl (cA 1, 8, .inl (fun _ => 0))), ((u.1 16), .inl (cA 1, 8, .inl (fun _ => 0))), ((u.1 17), .inl (cA 1, 7, .inl (fun _ => 0))), ((u.1 18), .inl (cA 1, 7, .inl (fun _ => 0))), ((u.1 19), .inl (cA 1, 7, .inl (fun _ => 0))), ((u.1 20), .inl (cA 1, 4, .inl (fun _ => 0))), ((u.1 21), .inl (cA 1, 4, .inl (fun _ => 0))), ((u.1 22), .inr (2, [.int (-1), .int (-1), .int 0, .int 0, .int 0, .int 0, .int 0, .ref (u.1 23), .ref (u.1 24), .ref (u.1 25)])), (qm, .inr (12, [.int 0, .ref (v.1 0), .ref (v.1 1), .ref (v.1 2), .ref (v.1 3), .int 0, .ref (v.1 4), .int 0, .int 0, .int 0, .int 0, .int 0, .int 0, .int (-1), .ref (v.1 5), .int 0, .int 0, .int 0, .int 0, .int 0, .int 0, .ref (v.1 6), .ref (v.1 7), .ref (v.1 8), .ref (v.1 9), .int 0, .int 0, .ref (v.1 10), .int 0, .ref (v.1 11), .int 0, .ref (v.1 12), .ref (v.1 13), .ref (v.1 14), .ref (v.1 15)])), ((v.1 0), .inl (cA 1, 122, .inl (fun _ => 0))), ((v.1 5), .inl (cA 1, 122, .inl (fun _ => 0)))]) [0, 1, 3, 4, 5, 6, 7, 8, 9, 10, 11, 12, 14, 15, 16, 17, 18, 19, 20, 21, 22, 23, 87, 88, 93] (by decide) rfl
  refine lv_aload_n hx hb dL_law_426 rfl (lv_at hl 2 rfl) ?_
  refine cmVi (rest := []) (wsC := [(qx, .inr (11, [.ref (u.1 0), .ref (u.1 2), .ref (u.1 13), .ref (u.1 22), .ref (u.1 26), .ref (u.1 69), .ref (u.1 73), .ref (u.1 74), .ref (u.1 77), .ref (u.1 79), .ref (u.1 83)])), ((u.1 13), .inr (3, [.int 0, .int 0, .int 0, .int 0, .int 0, .int 0, .int 0, .int 0, .ref (u.1 14), .ref (u.1 15), .ref (u.1 16), .ref (u.1 17), .ref (u.1 18), .ref (u.1 19), .ref (u.1 20), .ref (u.1 21)])), ((u.1 0), .inr (9, [.ref (u.1 1), .int 0])), ((u.1 22), .inr (2, [.int (-1), .int (-1), .int 0, .int 0, .int 0, .int 0, .int 0, .ref (u.1 23), .ref (u.1 24), .ref (u.1 25)])), ((u.1 2), .inr (6, [.ref (u.1 3), .int 0, .int (-1), .ref (u.1 0), .int 0, .int 0, .int 0, .int 0, .int 0, .int 0, .int 0, .int 0, .ref (u.1 12)])), ((u.1 3), .inr (3, [.int 0, .int 0, .int 0, .int 0, .int 0, .int 0, .int 0, .int 0, .ref (u.1 4), .ref (u.1 5), .ref (u.1 6), .ref (u.1 7), .ref (u.1 8), .ref (u.1 9), .ref (u.1 10), .ref (u.1 11)])), ((u.1 14), .inl (cA 1, 8, .inl (fun _ => 0))), ((u.1 15), .inl (cA 1, 8, .inl (fun _ => 0))), ((u.1 16), .inl (cA 1, 8, .inl (fun _ => 0))), ((u.1 17), .inl (cA 1, 7, .inl (fun _ => 0))), ((u.1 18), .inl (cA 1, 7, .inl (fun _ => 0))), ((u.1 19), .inl (cA 1, 7, .inl (fun _ => 0))), ((u.1 20), .inl (cA 1, 4, .inl (fun _ => 0))), ((u.1 21), .inl (cA 1, 4, .inl (fun _ => 0))), ((u.1 4), .inl (cA 1, 8, .inl (fun _ => 0))), ((u.1 5), .inl (cA 1, 8, .inl (fun _ => 0))), ((u.1 6), .inl (cA 1, 8, .inl (fun _ => 0))), ((u.1 7), .inl (cA 1, 7, .inl (fun _ => 0))), ((u.1 8), .inl (cA 1, 7, .inl (fun _ => 0))), ((u.1 9), .inl (cA 1, 7, .inl (fun _ => 0))), ((u.1 10), .inl (cA 1, 4, .inl (fun _ => 0))), ((u.1 11), .inl (cA 1, 4, .inl (fun _ => 0)))]) (wr := [(qm, .inr (12, [.int 0, .ref (v.1 0), .ref (v.1 1), .ref (v.1 2), .ref (v.1 3), .int 0, .ref (v.1 4), .int 0, .int 0, .int 0, .int 0, .int 0, .int 0, .int (-1), .ref (v.1 5), .int 0, .int 0, .int 0, .int 0, .int 0, .int 0, .ref (v.1 6), .ref (v.1 7), .ref (v.1 8), .ref (v.1 9), .int 0, .int 0, .ref (v.1 10), .int 0, .ref (v.1 11), .int 0, .ref (v.1 12), .ref (v.1 13), .ref (v.1 14), .ref (v.1 15)])), ((v.1 0), .inl (cA 1, 122, .inl (fun _ => 0))), ((v.1 5), .inl (cA 1, 122, .inl (fun _ => 0)))]) ⟨hx, hb, hml, hown, hts⟩ hKN hP hD hS hA [0, 12, 1, 21, 2, 3, 13, 14, 15, 16, 17, 18, 19, 20, 4, 5, 6, 7, 8, 9, 10, 11] [22, 23, 24] rfl rfl (by decide) (by decide) (by decide) (k_X11_gorge l D cA _ qx (u.1 0) (u.1 2) (u.1 13) (u.1 22) (u.1 26) (u.1 69) (u.1 73) (u.1 74) (u.1 77) (u.1 79) (u.1 83) (u.1 14) (u.1 15) (u.1 16) (u.1 17) (u.1 18) (u.1 19) (u.1 20) (u.1 21) (u.1 1) (u.1 3) (u.1 12) (u.1 23) (u.1 24) (u.1 25) (u.1 4) (u.1 5) (u.1 6) (u.1 7) (u.1 8) (u.1 9) (u.1 10) (u.1 11) (fun _ => 0) (fun _ => 0) (fun _ => 0) (fun _ => 0) (fun _ => 0) (fun _ => 0) (fun _ => 0) (fun _ => 0) (fun _ => 0) (fun _ => 0) (fun _ => 0) (fun _ => 0) (fun _ => 0) (fun _ => 0) (fun _ => 0) (fun _ => 0)) (tb_V tw_518 tw_519 tw_520 tw_101 tw_521) hdX11_gorge ⟨rfl, rfl, Nat.le_of_ble_eq_true rfl, Nat.le_of_ble_eq_true rfl⟩ ⟨Nat.le_of_ble_eq_true rfl, Nat.le_of_ble_eq_true rfl⟩ rfl rfl rfl hl.1 rfl (Nat.le_of_ble_eq_true rfl) dL_law_427 (fun r_1 u_1 H locs hr_1 hP hD hS => ?_)
  have hP : va_P D vwCl [(qm, .inr (12, [.int 0, .ref (v.1 0), .ref (v.1 1), .ref (v.1 2), .ref (v.1 3), .int 0, .ref (v.1 4), .int 0, .int 0, .int 0, .int 0, .int 0, .int 0, .int (-1), .ref (v.1 5), .int 0, .int 0, .int 0, .int 0, .int 0, .int 0, .ref (v.1 6), .ref (v.1 7), .ref (v.1 8), .ref (v.1 9), .int 0, .int 0, .ref (v.1 10), .int 0, .ref (v.1 11), .int 0, .ref (v.1 12), .ref (v.1 13), .ref (v.1 14), .ref (v.1 15)])), ((v.1 0), .inl (cA 1, 122, .inl (fun _ => 0))), ((v.1 5), .inl (cA 1, 122, .inl (fun _ => 0)))] H := hP
  have hD : va_D (fun q : Nat => s.heap.size ≤ q) [(qm, .inr (12, [.int 0, .ref (v.1 0), .ref (v.1 1), .ref (v.1 2), .ref (v.1 3), .int 0, .ref (v.1 4), .int 0, .int 0, .int 0, .int 0, .int 0, .int 0, .int (-1), .ref (v.1 5), .int 0, .int 0, .int 0, .int 0, .int 0, .int 0, .ref (v.1 6), .ref (v.1 7), .ref (v.1 8), .ref (v.1 9), .int 0, .int 0, .ref (v.1 10), .int 0, .ref (v.1 11), .int 0, .ref (v.1 12), .ref (v.1 13), .ref (v.1 14), .ref (v.1 15)])), ((v.1 0), .inl (cA 1, 122, .inl (fun _ => 0))), ((v.1 5), .inl (cA 1, 122, .inl (fun _ => 0)))] := hD
  obtain rfl : r_1 = 0 := hr_1
  refine lv_aload_n hx hb dL_law_430 rfl (lv_at hl 1 rfl) ?_
  refine cmVi (rest := [.int 0]) (wsC := [(qm, .inr (12, [.int 0, .ref (v.1 0), .ref (v.1 1), .ref (v.1 2), .ref (v.1 3), .int 0, .ref (v.1 4), .int 0, .int 0, .int 0, .int 0, .int 0, .int 0, .int (-1), .ref (v.1 5), .int 0, .int 0, .int 0, .int 0, .int 0, .int 0, .ref (v.1 6), .ref (v.1 7), .ref (v.1 8), .ref (v.1 9), .int 0, .int 0, .ref (v.1 10), .int 0, .ref (v.1 11), .int 0, .ref (v.1 12), .ref (v.1 13), .ref (v.1 14), .ref (v.1 15)])), ((v.1 0), .inl (cA 1, 122, .inl (fun _ => 0))), ((v.1 5), .inl (cA 1, 122, .inl (fun _ => 0)))]) (wr := []) ⟨hx, hb, hml, hown, hts⟩ hKN hP hD hS hA [0, 1, 2] [] rfl rfl (by decide) (by decide) (by decide) (k_X12_gorge l D cA _ qm (v.1 0) (v.1 1) (v.1 2) (v.1 3) (v.1 4) (v.1 5) (v.1 6) (v.1 7) (v.1 8) (v.1 9) (v.1 10) (v.1 11) (v.1 12) (v.1 13) (v.1 14) (v.1 15)) (tb_V tw_1549 tw_1550 tw_1551 tw_114 tw_1552) hdX12_gorge ⟨rfl, rfl, Nat.le_of_ble_eq_true rfl, Nat.le_of_ble_eq_true rfl⟩ ⟨Nat.le_of_ble_eq_true rfl, Nat.le_of_ble_eq_true rfl⟩ rfl rfl rfl hl.1 rfl (Nat.le_of_ble_eq_true rfl) dL_law_431 (fun r_2 u_2 H locs hr_2 hP hD hS => ?_)
  have hP : va_P D vwCl [] H := hP
  have hD : va_D (fun q : Nat => s.heap.size ≤ q) [] := hD
  obtain rfl : r_2 = 0 := hr_2
  refine lv_icmp_eq (tgt := 2271) hx hb dL_law_434 (by decide) (fun c_3 => ?_) (fun c_3 => absurd (by decide) c_3)
  exact lawEnd l C0 hS (Nat.le_of_ble_eq_true rfl) (Nat.le_of_ble_eq_true rfl) (lv_sub hl [0, 1, 2, 3] rfl)
set_option maxHeartbeats 4000000 in
set_option maxRecDepth 100000 in
theorem law_c3 {p : Program} {e : Env} {s : State} {m : MethodId} {below : List Frame} {meth : Method} {c : Code} (l : Launch) {b : Nat} {xs : Nat → Int32} (C0 : lw_At p s m meth c b 6 xs) (D : va_G) (cA : Nat → ClassId) (hKN : KN D cA s) {H : Heap} {locs : List Loc} {ls : Array Slot} (qx qm : Nat) (u v : SU) (hP : va_P D vwCl (wXM cA qx qm u v) H) (hD : va_D (fun q : Nat => s.heap.size ≤ q) (wXM cA qx qm u v)) (hS : va_S (fun q : Nat => s.heap.size ≤ q) s.heap H locs) (hl : lv_has ls 4 [(3, .int 0), (2, .ref qm), (1, .ref qx), (0, .ref b)]) : W p l e room_1 s m #[Value.ref b] below meth c H locs 104 9712 (lw_Z below #[Value.ref b] s) (F0 m 439 ls []) := by
  obtain ⟨hx, hb, hr, hml, hown, hts0, hX, hbl, hlocks, hgv⟩ := id C0
  have hts : ∀ w ∈ TB, w.before _ s = true := fun w h => hts0 w (List.mem_filter.mp h).1
  have hb : c.code = cL_law := hb
  have hown : s.vm.findClass "WristTreatyLaw" = some m.cls := hown
  have hA : ∀ q : Nat, s.heap.size ≤ q → (fun q : Nat => s.heap.size ≤ q) q := fun _ h => h
  have hbA : ¬ (fun q : Nat => s.heap.size ≤ q) b := Nat.not_le.mpr hbl
  have hP := hP.sub (ws' := [(qx, .inr (11, [.ref (u.1 0), .ref (u.1 2), .ref (u.1 13), .ref (u.1 22), .ref (u.1 26), .ref (u.1 69), .ref (u.1 73), .ref (u.1 74), .ref (u.1 77), .ref (u.1 79), .ref (u.1 83)])), ((u.1 2), .inr (6, [.ref (u.1 3), .int 0, .int (-1), .ref (u.1 0), .int 0, .int 0, .int 0, .int 0, .int 0, .int 0, .int 0, .int 0, .ref (u.1 12)])), (qm, .inr (12, [.int 0, .ref (v.1 0), .ref (v.1 1), .ref (v.1 2), .ref (v.1 3), .int 0, .ref (v.1 4), .int 0, .int 0, .int 0, .int 0, .int 0, .int 0, .int (-1), .ref (v.1 5), .int 0, .int 0, .int 0, .int 0, .int 0, .int 0, .ref (v.1 6), .ref (v.1 7), .ref (v.1 8), .ref (v.1 9), .int 0, .int 0, .ref (v.1 10), .int 0, .ref (v.1 11), .int 0, .ref (v.1 12), .ref (v.1 13), .ref (v.1 14), .ref (v.1 15)]))]) [0, 3, 87] rfl
  have hD := hD.sub (ws' := [(qx, .inr (11, [.ref (u.1 0), .ref (u.1 2), .ref (u.1 13), .ref (u.1 22), .ref (u.1 26), .ref (u.1 69), .ref (u.1 73), .ref (u.1 74), .ref (u.1 77), .ref (u.1 79), .ref (u.1 83)])), ((u.1 2), .inr (6, [.ref (u.1 3), .int 0, .int (-1), .ref (u.1 0), .int 0, .int 0, .int 0, .int 0, .int 0, .int 0, .int 0, .int 0, .ref (u.1 12)])), (qm, .inr (12, [.int 0, .ref (v.1 0), .ref (v.1 1), .ref (v.1 2), .ref (v.1 3), .int 0, .ref (v.1 4), .int 0, .int 0, .int 0, .int 0, .int 0, .int 0, .int (-1), .ref (v.1 5), .int 0, .int 0, .int 0, .int 0, .int 0, .int 0, .ref (v.1 6), .ref (v.1 7), .ref (v.1 8), .ref (v.1 9), .int 0, .int 0, .ref (v.1 10), .int 0, .ref (v.1 11), .int 0, .ref (v.1 12), .ref (v.1 13), .ref (v.1 14), .ref (v.1 15)]))]) [0, 3, 87] (by decide) rfl
  refine lv_aload_n hx hb dL_law_439 rfl (lv_at hl 2 rfl) ?_
  refine lv_aload_n hx hb dL_law_440 rfl (lv_at hl 3 rfl) ?_
  refine lv_iload_n hx hb dL_law_441 rfl (lv_at hl 0 rfl) ?_
  refine lv_iconst (v := 1) hx hb dL_law_442 (by decide) ?_
  refine lv_iadd hx hb dL_law_443 ?_
  refine lv_topi (fun x_1 ex_1 => ?_)
  obtain rfl : x_1 = 1 := ex_1.trans (by decide)
  refine va_sld hx hb hX hbl hbA hS (L := 6) (by unfold vp_in; decide) dL_law_444 ?_
  refine W.eq (g2 := F0 m 445 ls [.int (xs 1), .ref qx]) rfl ?_
  refine cpVi (rest := []) ⟨hx, hb, hml, hown, hts⟩ hKN (hP.sub (ws' := [(qx, .inr (11, [.ref (u.1 0), .ref (u.1 2), .ref (u.1 13), .ref (u.1 22), .ref (u.1 26), .ref (u.1 69), .ref (u.1 73), .ref (u.1 74), .ref (u.1 77), .ref (u.1 79), .ref (u.1 83)])), ((u.1 2), .inr (6, [.ref (u.1 3), .int 0, .int (-1), .ref (u.1 0), .int 0, .int 0, .int 0, .int 0, .int 0, .int 0, .int 0, .int 0, .ref (u.1 12)]))]) [0, 1] rfl) (k_X11_fault l D cA qx (u.1 0) (u.1 2) (u.1 13) (u.1 22) (u.1 26) (u.1 69) (u.1 73) (u.1 74) (u.1 77) (u.1 79) (u.1 83) (u.1 3) (u.1 12) (xs 1)) (tb_V tw_690 tw_691 tw_692 tw_101 tw_693) hdX11_fault ⟨rfl, rfl, Nat.le_of_ble_eq_true rfl, Nat.le_of_ble_eq_true rfl⟩ ⟨Nat.le_of_ble_eq_true rfl, Nat.le_of_ble_eq_true rfl⟩ rfl rfl rfl hl.1 rfl (Nat.le_of_ble_eq_true rfl) dL_law_445 (fun r_2 hr_2 => ?_)
  rcases hr_2 with ⟨k_2_0, rfl⟩ | ⟨k_2_1, rfl⟩
  · skip
    refine lv_aload_n hx hb dL_law_448 rfl (lv_at hl 1 rfl) ?_
    refine lv_aload_n hx hb dL_law_449 rfl (lv_at hl 3 rfl) ?_
    refine lv_iload_n hx hb dL_law_450 rfl (lv_at hl 0 rfl) ?_
    refine lv_iconst (v := 1) hx hb dL_law_451 (by decide) ?_
    refine lv_iadd hx hb dL_law_452 ?_
    refine lv_topi (fun x_3 ex_3 => ?_)
    obtain rfl : x_3 = 1 := ex_3.trans (by decide)
    refine va_sld hx hb hX hbl hbA hS (L := 6) (by unfold vp_in; decide) dL_law_453 ?_
    refine W.eq (g2 := F0 m 454 ls [.int (xs 1), .ref qm, .int 0]) rfl ?_
    refine cpVi (rest := [.int 0]) ⟨hx, hb, hml, hown, hts⟩ hKN (hP.sub (ws' := [(qm, .inr (12, [.int 0, .ref (v.1 0), .ref (v.1 1), .ref (v.1 2), .ref (v.1 3), .int 0, .ref (v.1 4), .int 0, .int 0, .int 0, .int 0, .int 0, .int 0, .int (-1), .ref (v.1 5), .int 0, .int 0, .int 0, .int 0, .int 0, .int 0, .ref (v.1 6), .ref (v.1 7), .ref (v.1 8), .ref (v.1 9), .int 0, .int 0, .ref (v.1 10), .int 0, .ref (v.1 11), .int 0, .ref (v.1 12), .ref (v.1 13), .ref (v.1 14), .ref (v.1 15)]))]) [2] rfl) (k_X12_fault l D cA qm (v.1 0) (v.1 1) (v.1 2) (v.1 3) (v.1 4) (v.1 5) (v.1 6) (v.1 7) (v.1 8) (v.1 9) (v.1 10) (v.1 11) (v.1 12) (v.1 13) (v.1 14) (v.1 15) (xs 1)) (tb_V tw_1545 tw_1546 tw_1547 tw_114 tw_1548) hdX12_fault ⟨rfl, rfl, Nat.le_of_ble_eq_true rfl, Nat.le_of_ble_eq_true rfl⟩ ⟨Nat.le_of_ble_eq_true rfl, Nat.le_of_ble_eq_true rfl⟩ rfl rfl rfl hl.1 rfl (Nat.le_of_ble_eq_true rfl) dL_law_454 (fun r_4 hr_4 => ?_)
    rcases hr_4 with ⟨k_4_0, rfl⟩ | ⟨k_4_1, rfl⟩
    · skip
      refine lv_icmp_eq (tgt := 2271) hx hb dL_law_457 (by decide) (fun c_5 => ?_) (fun c_5 => absurd (by decide) c_5)
      exact lawEnd l C0 hS (Nat.le_of_ble_eq_true rfl) (Nat.le_of_ble_eq_true rfl) (lv_sub hl [0, 1, 2, 3] rfl)
    · skip
      exfalso
      omega
  · skip
    refine lv_aload_n hx hb dL_law_448 rfl (lv_at hl 1 rfl) ?_
    refine lv_aload_n hx hb dL_law_449 rfl (lv_at hl 3 rfl) ?_
    refine lv_iload_n hx hb dL_law_450 rfl (lv_at hl 0 rfl) ?_
    refine lv_iconst (v := 1) hx hb dL_law_451 (by decide) ?_
    refine lv_iadd hx hb dL_law_452 ?_
    refine lv_topi (fun x_6 ex_6 => ?_)
    obtain rfl : x_6 = 1 := ex_6.trans (by decide)
    refine va_sld hx hb hX hbl hbA hS (L := 6) (by unfold vp_in; decide) dL_law_453 ?_
    refine W.eq (g2 := F0 m 454 ls [.int (xs 1), .ref qm, .int (-1)]) rfl ?_
    refine cpVi (rest := [.int (-1)]) ⟨hx, hb, hml, hown, hts⟩ hKN (hP.sub (ws' := [(qm, .inr (12, [.int 0, .ref (v.1 0), .ref (v.1 1), .ref (v.1 2), .ref (v.1 3), .int 0, .ref (v.1 4), .int 0, .int 0, .int 0, .int 0, .int 0, .int 0, .int (-1), .ref (v.1 5), .int 0, .int 0, .int 0, .int 0, .int 0, .int 0, .ref (v.1 6), .ref (v.1 7), .ref (v.1 8), .ref (v.1 9), .int 0, .int 0, .ref (v.1 10), .int 0, .ref (v.1 11), .int 0, .ref (v.1 12), .ref (v.1 13), .ref (v.1 14), .ref (v.1 15)]))]) [2] rfl) (k_X12_fault l D cA qm (v.1 0) (v.1 1) (v.1 2) (v.1 3) (v.1 4) (v.1 5) (v.1 6) (v.1 7) (v.1 8) (v.1 9) (v.1 10) (v.1 11) (v.1 12) (v.1 13) (v.1 14) (v.1 15) (xs 1)) (tb_V tw_1545 tw_1546 tw_1547 tw_114 tw_1548) hdX12_fault ⟨rfl, rfl, Nat.le_of_ble_eq_true rfl, Nat.le_of_ble_eq_true rfl⟩ ⟨Nat.le_of_ble_eq_true rfl, Nat.le_of_ble_eq_true rfl⟩ rfl rfl rfl hl.1 rfl (Nat.le_of_ble_eq_true rfl) dL_law_454 (fun r_7 hr_7 => ?_)
    rcases hr_7 with ⟨k_7_0, rfl⟩ | ⟨k_7_1, rfl⟩
    · skip
      exfalso
      omega
    · skip
      refine lv_icmp_eq (tgt := 2271) hx hb dL_law_457 (by decide) (fun c_8 => ?_) (fun c_8 => absurd (by decide) c_8)
      exact lawEnd l C0 hS (Nat.le_of_ble_eq_true rfl) (Nat.le_of_ble_eq_true rfl) (lv_sub hl [0, 1, 2, 3] rfl)
set_option maxHeartbeats 4000000 in
set_option maxRecDepth 100000 in
theorem law_c4 {p : Program} {e : Env} {s : State} {m : MethodId} {below : List Frame} {meth : Method} {c : Code} (l : Launch) {b : Nat} {xs : Nat → Int32} (C0 : lw_At p s m meth c b 6 xs) (D : va_G) (cA : Nat → ClassId) (hKN : KN D cA s) {H : Heap} {locs : List Loc} {ls : Array Slot} (qx qm : Nat) (u v : SU) (hP : va_P D vwCl (wXM cA qx qm u v) H) (hD : va_D (fun q : Nat => s.heap.size ≤ q) (wXM cA qx qm u v)) (hS : va_S (fun q : Nat => s.heap.size ≤ q) s.heap H locs) (hl : lv_has ls 4 [(3, .int 0), (2, .ref qm), (1, .ref qx), (0, .ref b)]) : W p l e room_1 s m #[Value.ref b] below meth c H locs 104 9712 (lw_Z below #[Value.ref b] s) (F0 m 462 ls []) := by
  obtain ⟨hx, hb, hr, hml, hown, hts0, hX, hbl, hlocks, hgv⟩ := id C0
  have hts : ∀ w ∈ TB, w.before _ s = true := fun w h => hts0 w (List.mem_filter.mp h).1
  have hb : c.code = cL_law := hb
  have hown : s.vm.findClass "WristTreatyLaw" = some m.cls := hown
  have hA : ∀ q : Nat, s.heap.size ≤ q → (fun q : Nat => s.heap.size ≤ q) q := fun _ h => h
  have hbA : ¬ (fun q : Nat => s.heap.size ≤ q) b := Nat.not_le.mpr hbl
  have hP := hP.sub (ws' := [(qx, .inr (11, [.ref (u.1 0), .ref (u.1 2), .ref (u.1 13), .ref (u.1 22), .ref (u.1 26), .ref (u.1 69), .ref (u.1 73), .ref (u.1 74), .ref (u.1 77), .ref (u.1 79), .ref (u.1 83)])), ((u.1 13), .inr (3, [.int 0, .int 0, .int 0, .int 0, .int 0, .int 0, .int 0, .int 0, .ref (u.1 14), .ref (u.1 15), .ref (u.1 16), .ref (u.1 17), .ref (u.1 18), .ref (u.1 19), .ref (u.1 20), .ref (u.1 21)])), (qm, .inr (12, [.int 0, .ref (v.1 0), .ref (v.1 1), .ref (v.1 2), .ref (v.1 3), .int 0, .ref (v.1 4), .int 0, .int 0, .int 0, .int 0, .int 0, .int 0, .int (-1), .ref (v.1 5), .int 0, .int 0, .int 0, .int 0, .int 0, .int 0, .ref (v.1 6), .ref (v.1 7), .ref (v.1 8), .ref (v.1 9), .int 0, .int 0, .ref (v.1 10), .int 0, .ref (v.1 11), .int 0, .ref (v.1 12), .ref (v.1 13), .ref (v.1 14), .ref (v.1 15)])), ((v.1 0), .inl (cA 1, 122, .inl (fun _ => 0)))]) [0, 14, 87, 88] rfl
  have hD := hD.sub (ws' := [(qx, .inr (11, [.ref (u.1 0), .ref (u.1 2), .ref (u.1 13), .ref (u.1 22), .ref (u.1 26), .ref (u.1 69), .ref (u.1 73), .ref (u.1 74), .ref (u.1 77), .ref (u.1 79), .ref (u.1 83)])), ((u.1 13), .inr (3, [.int 0, .int 0, .int 0, .int 0, .int 0, .int 0, .int 0, .int 0, .ref (u.1 14), .ref (u.1 15), .ref (u.1 16), .ref (u.1 17), .ref (u.1 18), .ref (u.1 19), .ref (u.1 20), .ref (u.1 21)])), (qm, .inr (12, [.int 0, .ref (v.1 0), .ref (v.1 1), .ref (v.1 2), .ref (v.1 3), .int 0, .ref (v.1 4), .int 0, .int 0, .int 0, .int 0, .int 0, .int 0, .int (-1), .ref (v.1 5), .int 0, .int 0, .int 0, .int 0, .int 0, .int 0, .ref (v.1 6), .ref (v.1 7), .ref (v.1 8), .ref (v.1 9), .int 0, .int 0, .ref (v.1 10), .int 0, .ref (v.1 11), .int 0, .ref (v.1 12), .ref (v.1 13), .ref (v.1 14), .ref (v.1 15)])), ((v.1 0), .inl (cA 1, 122, .inl (fun _ => 0)))]) [0, 14, 87, 88] (by decide) rfl
  refine lv_aload_n hx hb dL_law_462 rfl (lv_at hl 2 rfl) ?_
  refine lv_aload_n hx hb dL_law_463 rfl (lv_at hl 3 rfl) ?_
  refine lv_iload_n hx hb dL_law_464 rfl (lv_at hl 0 rfl) ?_
  refine lv_iconst (v := 1) hx hb dL_law_465 (by decide) ?_
  refine lv_iadd hx hb dL_law_466 ?_
  refine lv_topi (fun x_1 ex_1 => ?_)
  obtain rfl : x_1 = 1 := ex_1.trans (by decide)
  refine va_sld hx hb hX hbl hbA hS (L := 6) (by unfold vp_in; decide) dL_law_467 ?_
  refine W.eq (g2 := F0 m 468 ls [.int (xs 1), .ref qx]) rfl ?_
  refine lv_aload_n hx hb dL_law_468 rfl (lv_at hl 3 rfl) ?_
  refine lv_iload_n hx hb dL_law_469 rfl (lv_at hl 0 rfl) ?_
  refine lv_iconst (v := 2) hx hb dL_law_470 (by decide) ?_
  refine lv_iadd hx hb dL_law_471 ?_
  refine lv_topi (fun x_2 ex_2 => ?_)
  obtain rfl : x_2 = 2 := ex_2.trans (by decide)
  refine va_sld hx hb hX hbl hbA hS (L := 6) (by unfold vp_in; decide) dL_law_472 ?_
  refine W.eq (g2 := F0 m 473 ls [.int (xs 2), .int (xs 1), .ref qx]) rfl ?_
  refine cpVi (rest := []) ⟨hx, hb, hml, hown, hts⟩ hKN (hP.sub (ws' := [(qx, .inr (11, [.ref (u.1 0), .ref (u.1 2), .ref (u.1 13), .ref (u.1 22), .ref (u.1 26), .ref (u.1 69), .ref (u.1 73), .ref (u.1 74), .ref (u.1 77), .ref (u.1 79), .ref (u.1 83)])), ((u.1 13), .inr (3, [.int 0, .int 0, .int 0, .int 0, .int 0, .int 0, .int 0, .int 0, .ref (u.1 14), .ref (u.1 15), .ref (u.1 16), .ref (u.1 17), .ref (u.1 18), .ref (u.1 19), .ref (u.1 20), .ref (u.1 21)]))]) [0, 1] rfl) (k_X11_man l D cA qx (u.1 0) (u.1 2) (u.1 13) (u.1 22) (u.1 26) (u.1 69) (u.1 73) (u.1 74) (u.1 77) (u.1 79) (u.1 83) (u.1 14) (u.1 15) (u.1 16) (u.1 17) (u.1 18) (u.1 19) (u.1 20) (u.1 21) (xs 1) (xs 2)) (tb_V tw_694 tw_695 tw_696 tw_101 tw_697) hdX11_man ⟨rfl, rfl, Nat.le_of_ble_eq_true rfl, Nat.le_of_ble_eq_true rfl⟩ ⟨Nat.le_of_ble_eq_true rfl, Nat.le_of_ble_eq_true rfl⟩ rfl rfl rfl hl.1 rfl (Nat.le_of_ble_eq_true rfl) dL_law_473 (fun r_3 hr_3 => ?_)
  obtain rfl : r_3 = (-2) := hr_3
  refine lv_aload_n hx hb dL_law_476 rfl (lv_at hl 1 rfl) ?_
  refine lv_aload_n hx hb dL_law_477 rfl (lv_at hl 3 rfl) ?_
  refine lv_iload_n hx hb dL_law_478 rfl (lv_at hl 0 rfl) ?_
  refine lv_iconst (v := 1) hx hb dL_law_479 (by decide) ?_
  refine lv_iadd hx hb dL_law_480 ?_
  refine lv_topi (fun x_4 ex_4 => ?_)
  obtain rfl : x_4 = 1 := ex_4.trans (by decide)
  refine va_sld hx hb hX hbl hbA hS (L := 6) (by unfold vp_in; decide) dL_law_481 ?_
  refine W.eq (g2 := F0 m 482 ls [.int (xs 1), .ref qm, .int (-2)]) rfl ?_
  refine lv_aload_n hx hb dL_law_482 rfl (lv_at hl 3 rfl) ?_
  refine lv_iload_n hx hb dL_law_483 rfl (lv_at hl 0 rfl) ?_
  refine lv_iconst (v := 2) hx hb dL_law_484 (by decide) ?_
  refine lv_iadd hx hb dL_law_485 ?_
  refine lv_topi (fun x_5 ex_5 => ?_)
  obtain rfl : x_5 = 2 := ex_5.trans (by decide)
  refine va_sld hx hb hX hbl hbA hS (L := 6) (by unfold vp_in; decide) dL_law_486 ?_
  refine W.eq (g2 := F0 m 487 ls [.int (xs 2), .int (xs 1), .ref qm, .int (-2)]) rfl ?_
  refine cpVi (rest := [.int (-2)]) ⟨hx, hb, hml, hown, hts⟩ hKN (hP.sub (ws' := [(qm, .inr (12, [.int 0, .ref (v.1 0), .ref (v.1 1), .ref (v.1 2), .ref (v.1 3), .int 0, .ref (v.1 4), .int 0, .int 0, .int 0, .int 0, .int 0, .int 0, .int (-1), .ref (v.1 5), .int 0, .int 0, .int 0, .int 0, .int 0, .int 0, .ref (v.1 6), .ref (v.1 7), .ref (v.1 8), .ref (v.1 9), .int 0, .int 0, .ref (v.1 10), .int 0, .ref (v.1 11), .int 0, .ref (v.1 12), .ref (v.1 13), .ref (v.1 14), .ref (v.1 15)])), ((v.1 0), .inl (cA 1, 122, .inl (fun _ => 0)))]) [2, 3] rfl) (k_X12_man l D cA qm (v.1 0) (v.1 1) (v.1 2) (v.1 3) (v.1 4) (v.1 5) (v.1 6) (v.1 7) (v.1 8) (v.1 9) (v.1 10) (v.1 11) (v.1 12) (v.1 13) (v.1 14) (v.1 15) (xs 1) (xs 2)) (tb_V tw_1632 tw_1633 tw_1634 tw_114 tw_1635) hdX12_man ⟨rfl, rfl, Nat.le_of_ble_eq_true rfl, Nat.le_of_ble_eq_true rfl⟩ ⟨Nat.le_of_ble_eq_true rfl, Nat.le_of_ble_eq_true rfl⟩ rfl rfl rfl hl.1 rfl (Nat.le_of_ble_eq_true rfl) dL_law_487 (fun r_6 hr_6 => ?_)
  obtain rfl : r_6 = (-2) := hr_6
  refine lv_icmp_eq (tgt := 2271) hx hb dL_law_490 (by decide) (fun c_7 => ?_) (fun c_7 => absurd (by decide) c_7)
  exact lawEnd l C0 hS (Nat.le_of_ble_eq_true rfl) (Nat.le_of_ble_eq_true rfl) (lv_sub hl [0, 1, 2, 3] rfl)
set_option maxHeartbeats 4000000 in
set_option maxRecDepth 100000 in
theorem law_c5 {p : Program} {e : Env} {s : State} {m : MethodId} {below : List Frame} {meth : Method} {c : Code} (l : Launch) {b : Nat} {xs : Nat → Int32} (C0 : lw_At p s m meth c b 6 xs) (D : va_G) (cA : Nat → ClassId) (hKN : KN D cA s) {H : Heap} {locs : List Loc} {ls : Array Slot} (qx qm : Nat) (u v : SU) (hP : va_P D vwCl (wXM cA qx qm u v) H) (hD : va_D (fun q : Nat => s.heap.size ≤ q) (wXM cA qx qm u v)) (hS : va_S (fun q : Nat => s.heap.size ≤ q) s.heap H locs) (hl : lv_has ls 4 [(3, .int 0), (2, .ref qm), (1, .ref qx), (0, .ref b)]) : W p l e room_1 s m #[Value.ref b] below meth c H locs 104 9712 (lw_Z below #[Value.ref b] s) (F0 m 495 ls []) := by
  obtain ⟨hx, hb, hr, hml, hown, hts0, hX, hbl, hlocks, hgv⟩ := id C0
  have hts : ∀ w ∈ TB, w.before _ s = true := fun w h => hts0 w (List.mem_filter.mp h).1
  have hb : c.code = cL_law := hb
  have hown : s.vm.findClass "WristTreatyLaw" = some m.cls := hown
  have hA : ∀ q : Nat, s.heap.size ≤ q → (fun q : Nat => s.heap.size ≤ q) q := fun _ h => h
  have hbA : ¬ (fun q : Nat => s.heap.size ≤ q) b := Nat.not_le.mpr hbl
  have hP := hP.sub (ws' := [(qx, .inr (11, [.ref (u.1 0), .ref (u.1 2), .ref (u.1 13), .ref (u.1 22), .ref (u.1 26), .ref (u.1 69), .ref (u.1 73), .ref (u.1 74), .ref (u.1 77), .ref (u.1 79), .ref (u.1 83)])), ((u.1 13), .inr (3, [.int 0, .int 0, .int 0, .int 0, .int 0, .int 0, .int 0, .int 0, .ref (u.1 14), .ref (u.1 15), .ref (u.1 16), .ref (u.1 17), .ref (u.1 18), .ref (u.1 19), .ref (u.1 20), .ref (u.1 21)])), (qm, .inr (12, [.int 0, .ref (v.1 0), .ref (v.1 1), .ref (v.1 2), .ref (v.1 3), .int 0, .ref (v.1 4), .int 0, .int 0, .int 0, .int 0, .int 0, .int 0, .int (-1), .ref (v.1 5), .int 0, .int 0, .int 0, .int 0, .int 0, .int 0, .ref (v.1 6), .ref (v.1 7), .ref (v.1 8), .ref (v.1 9), .int 0, .int 0, .ref (v.1 10), .int 0, .ref (v.1 11), .int 0, .ref (v.1 12), .ref (v.1 13), .ref (v.1 14), .ref (v.1 15)])), ((v.1 0), .inl (cA 1, 122, .inl (fun _ => 0)))]) [0, 14, 87, 88] rfl
  have hD := hD.sub (ws' := [(qx, .inr (11, [.ref (u.1 0), .ref (u.1 2), .ref (u.1 13), .ref (u.1 22), .ref (u.1 26), .ref (u.1 69), .ref (u.1 73), .ref (u.1 74), .ref (u.1 77), .ref (u.1 79), .ref (u.1 83)])), ((u.1 13), .inr (3, [.int 0, .int 0, .int 0, .int 0, .int 0, .int 0, .int 0, .int 0, .ref (u.1 14), .ref (u.1 15), .ref (u.1 16), .ref (u.1 17), .ref (u.1 18), .ref (u.1 19), .ref (u.1 20), .ref (u.1 21)])), (qm, .inr (12, [.int 0, .ref (v.1 0), .ref (v.1 1), .ref (v.1 2), .ref (v.1 3), .int 0, .ref (v.1 4), .int 0, .int 0, .int 0, .int 0, .int 0, .int 0, .int (-1), .ref (v.1 5), .int 0, .int 0, .int 0, .int 0, .int 0, .int 0, .ref (v.1 6), .ref (v.1 7), .ref (v.1 8), .ref (v.1 9), .int 0, .int 0, .ref (v.1 10), .int 0, .ref (v.1 11), .int 0, .ref (v.1 12), .ref (v.1 13), .ref (v.1 14), .ref (v.1 15)])), ((v.1 0), .inl (cA 1, 122, .inl (fun _ => 0)))]) [0, 14, 87, 88] (by decide) rfl
  refine lv_aload_n hx hb dL_law_495 rfl (lv_at hl 2 rfl) ?_
  refine lv_aload_n hx hb dL_law_496 rfl (lv_at hl 3 rfl) ?_
  refine lv_iload_n hx hb dL_law_497 rfl (lv_at hl 0 rfl) ?_
  refine lv_iconst (v := 1) hx hb dL_law_498 (by decide) ?_
  refine lv_iadd hx hb dL_law_499 ?_
  refine lv_topi (fun x_1 ex_1 => ?_)
  obtain rfl : x_1 = 1 := ex_1.trans (by decide)
  refine va_sld hx hb hX hbl hbA hS (L := 6) (by unfold vp_in; decide) dL_law_500 ?_
  refine W.eq (g2 := F0 m 501 ls [.int (xs 1), .ref qx]) rfl ?_
  refine lv_aload_n hx hb dL_law_501 rfl (lv_at hl 3 rfl) ?_
  refine lv_iload_n hx hb dL_law_502 rfl (lv_at hl 0 rfl) ?_
  refine lv_iconst (v := 2) hx hb dL_law_503 (by decide) ?_
  refine lv_iadd hx hb dL_law_504 ?_
  refine lv_topi (fun x_2 ex_2 => ?_)
  obtain rfl : x_2 = 2 := ex_2.trans (by decide)
  refine va_sld hx hb hX hbl hbA hS (L := 6) (by unfold vp_in; decide) dL_law_505 ?_
  refine W.eq (g2 := F0 m 506 ls [.int (xs 2), .int (xs 1), .ref qx]) rfl ?_
  refine cpVi (rest := []) ⟨hx, hb, hml, hown, hts⟩ hKN (hP.sub (ws' := [(qx, .inr (11, [.ref (u.1 0), .ref (u.1 2), .ref (u.1 13), .ref (u.1 22), .ref (u.1 26), .ref (u.1 69), .ref (u.1 73), .ref (u.1 74), .ref (u.1 77), .ref (u.1 79), .ref (u.1 83)])), ((u.1 13), .inr (3, [.int 0, .int 0, .int 0, .int 0, .int 0, .int 0, .int 0, .int 0, .ref (u.1 14), .ref (u.1 15), .ref (u.1 16), .ref (u.1 17), .ref (u.1 18), .ref (u.1 19), .ref (u.1 20), .ref (u.1 21)]))]) [0, 1] rfl) (k_X11_clause l D cA qx (u.1 0) (u.1 2) (u.1 13) (u.1 22) (u.1 26) (u.1 69) (u.1 73) (u.1 74) (u.1 77) (u.1 79) (u.1 83) (u.1 14) (u.1 15) (u.1 16) (u.1 17) (u.1 18) (u.1 19) (u.1 20) (u.1 21) (xs 1) (xs 2)) (tb_V tw_715 tw_716 tw_717 tw_101 tw_718) hdX11_clause ⟨rfl, rfl, Nat.le_of_ble_eq_true rfl, Nat.le_of_ble_eq_true rfl⟩ ⟨Nat.le_of_ble_eq_true rfl, Nat.le_of_ble_eq_true rfl⟩ rfl rfl rfl hl.1 rfl (Nat.le_of_ble_eq_true rfl) dL_law_506 (fun r_3 hr_3 => ?_)
  obtain rfl : r_3 = (-1000) := hr_3
  refine lv_aload_n hx hb dL_law_509 rfl (lv_at hl 1 rfl) ?_
  refine lv_aload_n hx hb dL_law_510 rfl (lv_at hl 3 rfl) ?_
  refine lv_iload_n hx hb dL_law_511 rfl (lv_at hl 0 rfl) ?_
  refine lv_iconst (v := 1) hx hb dL_law_512 (by decide) ?_
  refine lv_iadd hx hb dL_law_513 ?_
  refine lv_topi (fun x_4 ex_4 => ?_)
  obtain rfl : x_4 = 1 := ex_4.trans (by decide)
  refine va_sld hx hb hX hbl hbA hS (L := 6) (by unfold vp_in; decide) dL_law_514 ?_
  refine W.eq (g2 := F0 m 515 ls [.int (xs 1), .ref qm, .int (-1000)]) rfl ?_
  refine lv_aload_n hx hb dL_law_515 rfl (lv_at hl 3 rfl) ?_
  refine lv_iload_n hx hb dL_law_516 rfl (lv_at hl 0 rfl) ?_
  refine lv_iconst (v := 2) hx hb dL_law_517 (by decide) ?_
  refine lv_iadd hx hb dL_law_518 ?_
  refine lv_topi (fun x_5 ex_5 => ?_)
  obtain rfl : x_5 = 2 := ex_5.trans (by decide)
  refine va_sld hx hb hX hbl hbA hS (L := 6) (by unfold vp_in; decide) dL_law_519 ?_
  refine W.eq (g2 := F0 m 520 ls [.int (xs 2), .int (xs 1), .ref qm, .int (-1000)]) rfl ?_
  refine cpVi (rest := [.int (-1000)]) ⟨hx, hb, hml, hown, hts⟩ hKN (hP.sub (ws' := [(qm, .inr (12, [.int 0, .ref (v.1 0), .ref (v.1 1), .ref (v.1 2), .ref (v.1 3), .int 0, .ref (v.1 4), .int 0, .int 0, .int 0, .int 0, .int 0, .int 0, .int (-1), .ref (v.1 5), .int 0, .int 0, .int 0, .int 0, .int 0, .int 0, .ref (v.1 6), .ref (v.1 7), .ref (v.1 8), .ref (v.1 9), .int 0, .int 0, .ref (v.1 10), .int 0, .ref (v.1 11), .int 0, .ref (v.1 12), .ref (v.1 13), .ref (v.1 14), .ref (v.1 15)])), ((v.1 0), .inl (cA 1, 122, .inl (fun _ => 0)))]) [2, 3] rfl) (k_X12_clause l D cA qm (v.1 0) (v.1 1) (v.1 2) (v.1 3) (v.1 4) (v.1 5) (v.1 6) (v.1 7) (v.1 8) (v.1 9) (v.1 10) (v.1 11) (v.1 12) (v.1 13) (v.1 14) (v.1 15) (xs 1) (xs 2)) (tb_V tw_1644 tw_1645 tw_1646 tw_114 tw_1647) hdX12_clause ⟨rfl, rfl, Nat.le_of_ble_eq_true rfl, Nat.le_of_ble_eq_true rfl⟩ ⟨Nat.le_of_ble_eq_true rfl, Nat.le_of_ble_eq_true rfl⟩ rfl rfl rfl hl.1 rfl (Nat.le_of_ble_eq_true rfl) dL_law_520 (fun r_6 hr_6 => ?_)
  obtain rfl : r_6 = (-1000) := hr_6
  refine lv_icmp_eq (tgt := 2271) hx hb dL_law_523 (by decide) (fun c_7 => ?_) (fun c_7 => absurd (by decide) c_7)
  exact lawEnd l C0 hS (Nat.le_of_ble_eq_true rfl) (Nat.le_of_ble_eq_true rfl) (lv_sub hl [0, 1, 2, 3] rfl)
set_option maxHeartbeats 4000000 in
set_option maxRecDepth 100000 in
theorem law_c6 {p : Program} {e : Env} {s : State} {m : MethodId} {below : List Frame} {meth : Method} {c : Code} (l : Launch) {b : Nat} {xs : Nat → Int32} (C0 : lw_At p s m meth c b 6 xs) (D : va_G) (cA : Nat → ClassId) (hKN : KN D cA s) {H : Heap} {locs : List Loc} {ls : Array Slot} (qx qm : Nat) (u v : SU) (hP : va_P D vwCl (wXM cA qx qm u v) H) (hD : va_D (fun q : Nat => s.heap.size ≤ q) (wXM cA qx qm u v)) (hS : va_S (fun q : Nat => s.heap.size ≤ q) s.heap H locs) (hl : lv_has ls 4 [(3, .int 0), (2, .ref qm), (1, .ref qx), (0, .ref b)]) : W p l e room_1 s m #[Value.ref b] below meth c H locs 104 9712 (lw_Z below #[Value.ref b] s) (F0 m 528 ls []) := by
  obtain ⟨hx, hb, hr, hml, hown, hts0, hX, hbl, hlocks, hgv⟩ := id C0
  have hts : ∀ w ∈ TB, w.before _ s = true := fun w h => hts0 w (List.mem_filter.mp h).1
  have hb : c.code = cL_law := hb
  have hown : s.vm.findClass "WristTreatyLaw" = some m.cls := hown
  have hA : ∀ q : Nat, s.heap.size ≤ q → (fun q : Nat => s.heap.size ≤ q) q := fun _ h => h
  have hbA : ¬ (fun q : Nat => s.heap.size ≤ q) b := Nat.not_le.mpr hbl
  have hP := hP.sub (ws' := [(qx, .inr (11, [.ref (u.1 0), .ref (u.1 2), .ref (u.1 13), .ref (u.1 22), .ref (u.1 26), .ref (u.1 69), .ref (u.1 73), .ref (u.1 74), .ref (u.1 77), .ref (u.1 79), .ref (u.1 83)])), ((u.1 13), .inr (3, [.int 0, .int 0, .int 0, .int 0, .int 0, .int 0, .int 0, .int 0, .ref (u.1 14), .ref (u.1 15), .ref (u.1 16), .ref (u.1 17), .ref (u.1 18), .ref (u.1 19), .ref (u.1 20), .ref (u.1 21)])), (qm, .inr (12, [.int 0, .ref (v.1 0), .ref (v.1 1), .ref (v.1 2), .ref (v.1 3), .int 0, .ref (v.1 4), .int 0, .int 0, .int 0, .int 0, .int 0, .int 0, .int (-1), .ref (v.1 5), .int 0, .int 0, .int 0, .int 0, .int 0, .int 0, .ref (v.1 6), .ref (v.1 7), .ref (v.1 8), .ref (v.1 9), .int 0, .int 0, .ref (v.1 10), .int 0, .ref (v.1 11), .int 0, .ref (v.1 12), .ref (v.1 13), .ref (v.1 14), .ref (v.1 15)])), ((v.1 0), .inl (cA 1, 122, .inl (fun _ => 0)))]) [0, 14, 87, 88] rfl
  have hD := hD.sub (ws' := [(qx, .inr (11, [.ref (u.1 0), .ref (u.1 2), .ref (u.1 13), .ref (u.1 22), .ref (u.1 26), .ref (u.1 69), .ref (u.1 73), .ref (u.1 74), .ref (u.1 77), .ref (u.1 79), .ref (u.1 83)])), ((u.1 13), .inr (3, [.int 0, .int 0, .int 0, .int 0, .int 0, .int 0, .int 0, .int 0, .ref (u.1 14), .ref (u.1 15), .ref (u.1 16), .ref (u.1 17), .ref (u.1 18), .ref (u.1 19), .ref (u.1 20), .ref (u.1 21)])), (qm, .inr (12, [.int 0, .ref (v.1 0), .ref (v.1 1), .ref (v.1 2), .ref (v.1 3), .int 0, .ref (v.1 4), .int 0, .int 0, .int 0, .int 0, .int 0, .int 0, .int (-1), .ref (v.1 5), .int 0, .int 0, .int 0, .int 0, .int 0, .int 0, .ref (v.1 6), .ref (v.1 7), .ref (v.1 8), .ref (v.1 9), .int 0, .int 0, .ref (v.1 10), .int 0, .ref (v.1 11), .int 0, .ref (v.1 12), .ref (v.1 13), .ref (v.1 14), .ref (v.1 15)])), ((v.1 0), .inl (cA 1, 122, .inl (fun _ => 0)))]) [0, 14, 87, 88] (by decide) rfl
  refine lv_aload_n hx hb dL_law_528 rfl (lv_at hl 2 rfl) ?_
  refine lv_aload_n hx hb dL_law_529 rfl (lv_at hl 3 rfl) ?_
  refine lv_iload_n hx hb dL_law_530 rfl (lv_at hl 0 rfl) ?_
  refine lv_iconst (v := 1) hx hb dL_law_531 (by decide) ?_
  refine lv_iadd hx hb dL_law_532 ?_
  refine lv_topi (fun x_1 ex_1 => ?_)
  obtain rfl : x_1 = 1 := ex_1.trans (by decide)
  refine va_sld hx hb hX hbl hbA hS (L := 6) (by unfold vp_in; decide) dL_law_533 ?_
  refine W.eq (g2 := F0 m 534 ls [.int (xs 1), .ref qx]) rfl ?_
  refine cpVi (rest := []) ⟨hx, hb, hml, hown, hts⟩ hKN (hP.sub (ws' := [(qx, .inr (11, [.ref (u.1 0), .ref (u.1 2), .ref (u.1 13), .ref (u.1 22), .ref (u.1 26), .ref (u.1 69), .ref (u.1 73), .ref (u.1 74), .ref (u.1 77), .ref (u.1 79), .ref (u.1 83)])), ((u.1 13), .inr (3, [.int 0, .int 0, .int 0, .int 0, .int 0, .int 0, .int 0, .int 0, .ref (u.1 14), .ref (u.1 15), .ref (u.1 16), .ref (u.1 17), .ref (u.1 18), .ref (u.1 19), .ref (u.1 20), .ref (u.1 21)]))]) [0, 1] rfl) (k_X11_start l D cA qx (u.1 0) (u.1 2) (u.1 13) (u.1 22) (u.1 26) (u.1 69) (u.1 73) (u.1 74) (u.1 77) (u.1 79) (u.1 83) (u.1 14) (u.1 15) (u.1 16) (u.1 17) (u.1 18) (u.1 19) (u.1 20) (u.1 21) (xs 1)) (tb_V tw_732 tw_733 tw_734 tw_101 tw_735) hdX11_start ⟨rfl, rfl, Nat.le_of_ble_eq_true rfl, Nat.le_of_ble_eq_true rfl⟩ ⟨Nat.le_of_ble_eq_true rfl, Nat.le_of_ble_eq_true rfl⟩ rfl rfl rfl hl.1 rfl (Nat.le_of_ble_eq_true rfl) dL_law_534 (fun r_2 hr_2 => ?_)
  obtain rfl : r_2 = (-2) := hr_2
  refine lv_aload_n hx hb dL_law_537 rfl (lv_at hl 1 rfl) ?_
  refine lv_aload_n hx hb dL_law_538 rfl (lv_at hl 3 rfl) ?_
  refine lv_iload_n hx hb dL_law_539 rfl (lv_at hl 0 rfl) ?_
  refine lv_iconst (v := 1) hx hb dL_law_540 (by decide) ?_
  refine lv_iadd hx hb dL_law_541 ?_
  refine lv_topi (fun x_3 ex_3 => ?_)
  obtain rfl : x_3 = 1 := ex_3.trans (by decide)
  refine va_sld hx hb hX hbl hbA hS (L := 6) (by unfold vp_in; decide) dL_law_542 ?_
  refine W.eq (g2 := F0 m 543 ls [.int (xs 1), .ref qm, .int (-2)]) rfl ?_
  refine cpVi (rest := [.int (-2)]) ⟨hx, hb, hml, hown, hts⟩ hKN (hP.sub (ws' := [(qm, .inr (12, [.int 0, .ref (v.1 0), .ref (v.1 1), .ref (v.1 2), .ref (v.1 3), .int 0, .ref (v.1 4), .int 0, .int 0, .int 0, .int 0, .int 0, .int 0, .int (-1), .ref (v.1 5), .int 0, .int 0, .int 0, .int 0, .int 0, .int 0, .ref (v.1 6), .ref (v.1 7), .ref (v.1 8), .ref (v.1 9), .int 0, .int 0, .ref (v.1 10), .int 0, .ref (v.1 11), .int 0, .ref (v.1 12), .ref (v.1 13), .ref (v.1 14), .ref (v.1 15)])), ((v.1 0), .inl (cA 1, 122, .inl (fun _ => 0)))]) [2, 3] rfl) (k_X12_start l D cA qm (v.1 0) (v.1 1) (v.1 2) (v.1 3) (v.1 4) (v.1 5) (v.1 6) (v.1 7) (v.1 8) (v.1 9) (v.1 10) (v.1 11) (v.1 12) (v.1 13) (v.1 14) (v.1 15) (xs 1)) (tb_V tw_1656 tw_1657 tw_1658 tw_114 tw_1659) hdX12_start ⟨rfl, rfl, Nat.le_of_ble_eq_true rfl, Nat.le_of_ble_eq_true rfl⟩ ⟨Nat.le_of_ble_eq_true rfl, Nat.le_of_ble_eq_true rfl⟩ rfl rfl rfl hl.1 rfl (Nat.le_of_ble_eq_true rfl) dL_law_543 (fun r_4 hr_4 => ?_)
  obtain rfl : r_4 = (-2) := hr_4
  refine lv_icmp_eq (tgt := 2271) hx hb dL_law_546 (by decide) (fun c_5 => ?_) (fun c_5 => absurd (by decide) c_5)
  exact lawEnd l C0 hS (Nat.le_of_ble_eq_true rfl) (Nat.le_of_ble_eq_true rfl) (lv_sub hl [0, 1, 2, 3] rfl)
set_option maxHeartbeats 4000000 in
set_option maxRecDepth 100000 in
theorem law_c7 {p : Program} {e : Env} {s : State} {m : MethodId} {below : List Frame} {meth : Method} {c : Code} (l : Launch) {b : Nat} {xs : Nat → Int32} (C0 : lw_At p s m meth c b 6 xs) (D : va_G) (cA : Nat → ClassId) (hKN : KN D cA s) {H : Heap} {locs : List Loc} {ls : Array Slot} (qx qm : Nat) (u v : SU) (hP : va_P D vwCl (wXM cA qx qm u v) H) (hD : va_D (fun q : Nat => s.heap.size ≤ q) (wXM cA qx qm u v)) (hS : va_S (fun q : Nat => s.heap.size ≤ q) s.heap H locs) (hl : lv_has ls 4 [(3, .int 0), (2, .ref qm), (1, .ref qx), (0, .ref b)]) : W p l e room_1 s m #[Value.ref b] below meth c H locs 104 9712 (lw_Z below #[Value.ref b] s) (F0 m 551 ls []) := by
  obtain ⟨hx, hb, hr, hml, hown, hts0, hX, hbl, hlocks, hgv⟩ := id C0
  have hts : ∀ w ∈ TB, w.before _ s = true := fun w h => hts0 w (List.mem_filter.mp h).1
  have hb : c.code = cL_law := hb
  have hown : s.vm.findClass "WristTreatyLaw" = some m.cls := hown
  have hA : ∀ q : Nat, s.heap.size ≤ q → (fun q : Nat => s.heap.size ≤ q) q := fun _ h => h
  have hbA : ¬ (fun q : Nat => s.heap.size ≤ q) b := Nat.not_le.mpr hbl
  have hP := hP.sub (ws' := [(qx, .inr (11, [.ref (u.1 0), .ref (u.1 2), .ref (u.1 13), .ref (u.1 22), .ref (u.1 26), .ref (u.1 69), .ref (u.1 73), .ref (u.1 74), .ref (u.1 77), .ref (u.1 79), .ref (u.1 83)])), ((u.1 13), .inr (3, [.int 0, .int 0, .int 0, .int 0, .int 0, .int 0, .int 0, .int 0, .ref (u.1 14), .ref (u.1 15), .ref (u.1 16), .ref (u.1 17), .ref (u.1 18), .ref (u.1 19), .ref (u.1 20), .ref (u.1 21)])), (qm, .inr (12, [.int 0, .ref (v.1 0), .ref (v.1 1), .ref (v.1 2), .ref (v.1 3), .int 0, .ref (v.1 4), .int 0, .int 0, .int 0, .int 0, .int 0, .int 0, .int (-1), .ref (v.1 5), .int 0, .int 0, .int 0, .int 0, .int 0, .int 0, .ref (v.1 6), .ref (v.1 7), .ref (v.1 8), .ref (v.1 9), .int 0, .int 0, .ref (v.1 10), .int 0, .ref (v.1 11), .int 0, .ref (v.1 12), .ref (v.1 13), .ref (v.1 14), .ref (v.1 15)])), ((v.1 0), .inl (cA 1, 122, .inl (fun _ => 0)))]) [0, 14, 87, 88] rfl
  have hD := hD.sub (ws' := [(qx, .inr (11, [.ref (u.1 0), .ref (u.1 2), .ref (u.1 13), .ref (u.1 22), .ref (u.1 26), .ref (u.1 69), .ref (u.1 73), .ref (u.1 74), .ref (u.1 77), .ref (u.1 79), .ref (u.1 83)])), ((u.1 13), .inr (3, [.int 0, .int 0, .int 0, .int 0, .int 0, .int 0, .int 0, .int 0, .ref (u.1 14), .ref (u.1 15), .ref (u.1 16), .ref (u.1 17), .ref (u.1 18), .ref (u.1 19), .ref (u.1 20), .ref (u.1 21)])), (qm, .inr (12, [.int 0, .ref (v.1 0), .ref (v.1 1), .ref (v.1 2), .ref (v.1 3), .int 0, .ref (v.1 4), .int 0, .int 0, .int 0, .int 0, .int 0, .int 0, .int (-1), .ref (v.1 5), .int 0, .int 0, .int 0, .int 0, .int 0, .int 0, .ref (v.1 6), .ref (v.1 7), .ref (v.1 8), .ref (v.1 9), .int 0, .int 0, .ref (v.1 10), .int 0, .ref (v.1 11), .int 0, .ref (v.1 12), .ref (v.1 13), .ref (v.1 14), .ref (v.1 15)])), ((v.1 0), .inl (cA 1, 122, .inl (fun _ => 0)))]) [0, 14, 87, 88] (by decide) rfl
  refine lv_aload_n hx hb dL_law_551 rfl (lv_at hl 2 rfl) ?_
  refine lv_aload_n hx hb dL_law_552 rfl (lv_at hl 3 rfl) ?_
  refine lv_iload_n hx hb dL_law_553 rfl (lv_at hl 0 rfl) ?_
  refine lv_iconst (v := 1) hx hb dL_law_554 (by decide) ?_
  refine lv_iadd hx hb dL_law_555 ?_
  refine lv_topi (fun x_1 ex_1 => ?_)
  obtain rfl : x_1 = 1 := ex_1.trans (by decide)
  refine va_sld hx hb hX hbl hbA hS (L := 6) (by unfold vp_in; decide) dL_law_556 ?_
  refine W.eq (g2 := F0 m 557 ls [.int (xs 1), .ref qx]) rfl ?_
  refine lv_aload_n hx hb dL_law_557 rfl (lv_at hl 3 rfl) ?_
  refine lv_iload_n hx hb dL_law_558 rfl (lv_at hl 0 rfl) ?_
  refine lv_iconst (v := 2) hx hb dL_law_559 (by decide) ?_
  refine lv_iadd hx hb dL_law_560 ?_
  refine lv_topi (fun x_2 ex_2 => ?_)
  obtain rfl : x_2 = 2 := ex_2.trans (by decide)
  refine va_sld hx hb hX hbl hbA hS (L := 6) (by unfold vp_in; decide) dL_law_561 ?_
  refine W.eq (g2 := F0 m 562 ls [.int (xs 2), .int (xs 1), .ref qx]) rfl ?_
  refine cpVi (rest := []) ⟨hx, hb, hml, hown, hts⟩ hKN (hP.sub (ws' := [(qx, .inr (11, [.ref (u.1 0), .ref (u.1 2), .ref (u.1 13), .ref (u.1 22), .ref (u.1 26), .ref (u.1 69), .ref (u.1 73), .ref (u.1 74), .ref (u.1 77), .ref (u.1 79), .ref (u.1 83)])), ((u.1 13), .inr (3, [.int 0, .int 0, .int 0, .int 0, .int 0, .int 0, .int 0, .int 0, .ref (u.1 14), .ref (u.1 15), .ref (u.1 16), .ref (u.1 17), .ref (u.1 18), .ref (u.1 19), .ref (u.1 20), .ref (u.1 21)]))]) [0, 1] rfl) (k_X11_out l D cA qx (u.1 0) (u.1 2) (u.1 13) (u.1 22) (u.1 26) (u.1 69) (u.1 73) (u.1 74) (u.1 77) (u.1 79) (u.1 83) (u.1 14) (u.1 15) (u.1 16) (u.1 17) (u.1 18) (u.1 19) (u.1 20) (u.1 21) (xs 1) (xs 2)) (tb_V tw_749 tw_750 tw_751 tw_101 tw_752) hdX11_out ⟨rfl, rfl, Nat.le_of_ble_eq_true rfl, Nat.le_of_ble_eq_true rfl⟩ ⟨Nat.le_of_ble_eq_true rfl, Nat.le_of_ble_eq_true rfl⟩ rfl rfl rfl hl.1 rfl (Nat.le_of_ble_eq_true rfl) dL_law_562 (fun r_3 hr_3 => ?_)
  obtain rfl : r_3 = (-2) := hr_3
  refine lv_aload_n hx hb dL_law_565 rfl (lv_at hl 1 rfl) ?_
  refine lv_aload_n hx hb dL_law_566 rfl (lv_at hl 3 rfl) ?_
  refine lv_iload_n hx hb dL_law_567 rfl (lv_at hl 0 rfl) ?_
  refine lv_iconst (v := 1) hx hb dL_law_568 (by decide) ?_
  refine lv_iadd hx hb dL_law_569 ?_
  refine lv_topi (fun x_4 ex_4 => ?_)
  obtain rfl : x_4 = 1 := ex_4.trans (by decide)
  refine va_sld hx hb hX hbl hbA hS (L := 6) (by unfold vp_in; decide) dL_law_570 ?_
  refine W.eq (g2 := F0 m 571 ls [.int (xs 1), .ref qm, .int (-2)]) rfl ?_
  refine lv_aload_n hx hb dL_law_571 rfl (lv_at hl 3 rfl) ?_
  refine lv_iload_n hx hb dL_law_572 rfl (lv_at hl 0 rfl) ?_
  refine lv_iconst (v := 2) hx hb dL_law_573 (by decide) ?_
  refine lv_iadd hx hb dL_law_574 ?_
  refine lv_topi (fun x_5 ex_5 => ?_)
  obtain rfl : x_5 = 2 := ex_5.trans (by decide)
  refine va_sld hx hb hX hbl hbA hS (L := 6) (by unfold vp_in; decide) dL_law_575 ?_
  refine W.eq (g2 := F0 m 576 ls [.int (xs 2), .int (xs 1), .ref qm, .int (-2)]) rfl ?_
  refine cpVi (rest := [.int (-2)]) ⟨hx, hb, hml, hown, hts⟩ hKN (hP.sub (ws' := [(qm, .inr (12, [.int 0, .ref (v.1 0), .ref (v.1 1), .ref (v.1 2), .ref (v.1 3), .int 0, .ref (v.1 4), .int 0, .int 0, .int 0, .int 0, .int 0, .int 0, .int (-1), .ref (v.1 5), .int 0, .int 0, .int 0, .int 0, .int 0, .int 0, .ref (v.1 6), .ref (v.1 7), .ref (v.1 8), .ref (v.1 9), .int 0, .int 0, .ref (v.1 10), .int 0, .ref (v.1 11), .int 0, .ref (v.1 12), .ref (v.1 13), .ref (v.1 14), .ref (v.1 15)])), ((v.1 0), .inl (cA 1, 122, .inl (fun _ => 0)))]) [2, 3] rfl) (k_X12_out l D cA qm (v.1 0) (v.1 1) (v.1 2) (v.1 3) (v.1 4) (v.1 5) (v.1 6) (v.1 7) (v.1 8) (v.1 9) (v.1 10) (v.1 11) (v.1 12) (v.1 13) (v.1 14) (v.1 15) (xs 1) (xs 2)) (tb_V tw_1712 tw_1713 tw_1714 tw_114 tw_1715) hdX12_out ⟨rfl, rfl, Nat.le_of_ble_eq_true rfl, Nat.le_of_ble_eq_true rfl⟩ ⟨Nat.le_of_ble_eq_true rfl, Nat.le_of_ble_eq_true rfl⟩ rfl rfl rfl hl.1 rfl (Nat.le_of_ble_eq_true rfl) dL_law_576 (fun r_6 hr_6 => ?_)
  obtain rfl : r_6 = (-2) := hr_6
  refine lv_icmp_eq (tgt := 2271) hx hb dL_law_579 (by decide) (fun c_7 => ?_) (fun c_7 => absurd (by decide) c_7)
  exact lawEnd l C0 hS (Nat.le_of_ble_eq_true rfl) (Nat.le_of_ble_eq_true rfl) (lv_sub hl [0, 1, 2, 3] rfl)
set_option maxHeartbeats 4000000 in
set_option maxRecDepth 100000 in
theorem law_c8 {p : Program} {e : Env} {s : State} {m : MethodId} {below : List Frame} {meth : Method} {c : Code} (l : Launch) {b : Nat} {xs : Nat → Int32} (C0 : lw_At p s m meth c b 6 xs) (D : va_G) (cA : Nat → ClassId) (hKN : KN D cA s) {H : Heap} {locs : List Loc} {ls : Array Slot} (qx qm : Nat) (u v : SU) (hP : va_P D vwCl (wXM cA qx qm u v) H) (hD : va_D (fun q : Nat => s.heap.size ≤ q) (wXM cA qx qm u v)) (hS : va_S (fun q : Nat => s.heap.size ≤ q) s.heap H locs) (hl : lv_has ls 4 [(3, .int 0), (2, .ref qm), (1, .ref qx), (0, .ref b)]) : W p l e room_1 s m #[Value.ref b] below meth c H locs 104 9712 (lw_Z below #[Value.ref b] s) (F0 m 584 ls []) := by
  obtain ⟨hx, hb, hr, hml, hown, hts0, hX, hbl, hlocks, hgv⟩ := id C0
  have hts : ∀ w ∈ TB, w.before _ s = true := fun w h => hts0 w (List.mem_filter.mp h).1
  have hb : c.code = cL_law := hb
  have hown : s.vm.findClass "WristTreatyLaw" = some m.cls := hown
  have hA : ∀ q : Nat, s.heap.size ≤ q → (fun q : Nat => s.heap.size ≤ q) q := fun _ h => h
  have hbA : ¬ (fun q : Nat => s.heap.size ≤ q) b := Nat.not_le.mpr hbl
  have hP := hP.sub (ws' := [(qx, .inr (11, [.ref (u.1 0), .ref (u.1 2), .ref (u.1 13), .ref (u.1 22), .ref (u.1 26), .ref (u.1 69), .ref (u.1 73), .ref (u.1 74), .ref (u.1 77), .ref (u.1 79), .ref (u.1 83)])), ((u.1 13), .inr (3, [.int 0, .int 0, .int 0, .int 0, .int 0, .int 0, .int 0, .int 0, .ref (u.1 14), .ref (u.1 15), .ref (u.1 16), .ref (u.1 17), .ref (u.1 18), .ref (u.1 19), .ref (u.1 20), .ref (u.1 21)])), (qm, .inr (12, [.int 0, .ref (v.1 0), .ref (v.1 1), .ref (v.1 2), .ref (v.1 3), .int 0, .ref (v.1 4), .int 0, .int 0, .int 0, .int 0, .int 0, .int 0, .int (-1), .ref (v.1 5), .int 0, .int 0, .int 0, .int 0, .int 0, .int 0, .ref (v.1 6), .ref (v.1 7), .ref (v.1 8), .ref (v.1 9), .int 0, .int 0, .ref (v.1 10), .int 0, .ref (v.1 11), .int 0, .ref (v.1 12), .ref (v.1 13), .ref (v.1 14), .ref (v.1 15)])), ((v.1 0), .inl (cA 1, 122, .inl (fun _ => 0)))]) [0, 14, 87, 88] rfl
  have hD := hD.sub (ws' := [(qx, .inr (11, [.ref (u.1 0), .ref (u.1 2), .ref (u.1 13), .ref (u.1 22), .ref (u.1 26), .ref (u.1 69), .ref (u.1 73), .ref (u.1 74), .ref (u.1 77), .ref (u.1 79), .ref (u.1 83)])), ((u.1 13), .inr (3, [.int 0, .int 0, .int 0, .int 0, .int 0, .int 0, .int 0, .int 0, .ref (u.1 14), .ref (u.1 15), .ref (u.1 16), .ref (u.1 17), .ref (u.1 18), .ref (u.1 19), .ref (u.1 20), .ref (u.1 21)])), (qm, .inr (12, [.int 0, .ref (v.1 0), .ref (v.1 1), .ref (v.1 2), .ref (v.1 3), .int 0, .ref (v.1 4), .int 0, .int 0, .int 0, .int 0, .int 0, .int 0, .int (-1), .ref (v.1 5), .int 0, .int 0, .int 0, .int 0, .int 0, .int 0, .ref (v.1 6), .ref (v.1 7), .ref (v.1 8), .ref (v.1 9), .int 0, .int 0, .ref (v.1 10), .int 0, .ref (v.1 11), .int 0, .ref (v.1 12), .ref (v.1 13), .ref (v.1 14), .ref (v.1 15)])), ((v.1 0), .inl (cA 1, 122, .inl (fun _ => 0)))]) [0, 14, 87, 88] (by decide) rfl
  refine lv_aload_n hx hb dL_law_584 rfl (lv_at hl 2 rfl) ?_
  refine lv_aload_n hx hb dL_law_585 rfl (lv_at hl 3 rfl) ?_
  refine lv_iload_n hx hb dL_law_586 rfl (lv_at hl 0 rfl) ?_
  refine lv_iconst (v := 1) hx hb dL_law_587 (by decide) ?_
  refine lv_iadd hx hb dL_law_588 ?_
  refine lv_topi (fun x_1 ex_1 => ?_)
  obtain rfl : x_1 = 1 := ex_1.trans (by decide)
  refine va_sld hx hb hX hbl hbA hS (L := 6) (by unfold vp_in; decide) dL_law_589 ?_
  refine W.eq (g2 := F0 m 590 ls [.int (xs 1), .ref qx]) rfl ?_
  refine cpVi (rest := []) ⟨hx, hb, hml, hown, hts⟩ hKN (hP.sub (ws' := [(qx, .inr (11, [.ref (u.1 0), .ref (u.1 2), .ref (u.1 13), .ref (u.1 22), .ref (u.1 26), .ref (u.1 69), .ref (u.1 73), .ref (u.1 74), .ref (u.1 77), .ref (u.1 79), .ref (u.1 83)])), ((u.1 13), .inr (3, [.int 0, .int 0, .int 0, .int 0, .int 0, .int 0, .int 0, .int 0, .ref (u.1 14), .ref (u.1 15), .ref (u.1 16), .ref (u.1 17), .ref (u.1 18), .ref (u.1 19), .ref (u.1 20), .ref (u.1 21)]))]) [0, 1] rfl) (k_X11_next l D cA qx (u.1 0) (u.1 2) (u.1 13) (u.1 22) (u.1 26) (u.1 69) (u.1 73) (u.1 74) (u.1 77) (u.1 79) (u.1 83) (u.1 14) (u.1 15) (u.1 16) (u.1 17) (u.1 18) (u.1 19) (u.1 20) (u.1 21) (xs 1)) (tb_V tw_764 tw_765 tw_766 tw_101 tw_767) hdX11_next ⟨rfl, rfl, Nat.le_of_ble_eq_true rfl, Nat.le_of_ble_eq_true rfl⟩ ⟨Nat.le_of_ble_eq_true rfl, Nat.le_of_ble_eq_true rfl⟩ rfl rfl rfl hl.1 rfl (Nat.le_of_ble_eq_true rfl) dL_law_590 (fun r_2 hr_2 => ?_)
  obtain rfl : r_2 = (-2) := hr_2
  refine lv_aload_n hx hb dL_law_593 rfl (lv_at hl 1 rfl) ?_
  refine lv_aload_n hx hb dL_law_594 rfl (lv_at hl 3 rfl) ?_
  refine lv_iload_n hx hb dL_law_595 rfl (lv_at hl 0 rfl) ?_
  refine lv_iconst (v := 1) hx hb dL_law_596 (by decide) ?_
  refine lv_iadd hx hb dL_law_597 ?_
  refine lv_topi (fun x_3 ex_3 => ?_)
  obtain rfl : x_3 = 1 := ex_3.trans (by decide)
  refine va_sld hx hb hX hbl hbA hS (L := 6) (by unfold vp_in; decide) dL_law_598 ?_
  refine W.eq (g2 := F0 m 599 ls [.int (xs 1), .ref qm, .int (-2)]) rfl ?_
  refine cpVi (rest := [.int (-2)]) ⟨hx, hb, hml, hown, hts⟩ hKN (hP.sub (ws' := [(qm, .inr (12, [.int 0, .ref (v.1 0), .ref (v.1 1), .ref (v.1 2), .ref (v.1 3), .int 0, .ref (v.1 4), .int 0, .int 0, .int 0, .int 0, .int 0, .int 0, .int (-1), .ref (v.1 5), .int 0, .int 0, .int 0, .int 0, .int 0, .int 0, .ref (v.1 6), .ref (v.1 7), .ref (v.1 8), .ref (v.1 9), .int 0, .int 0, .ref (v.1 10), .int 0, .ref (v.1 11), .int 0, .ref (v.1 12), .ref (v.1 13), .ref (v.1 14), .ref (v.1 15)])), ((v.1 0), .inl (cA 1, 122, .inl (fun _ => 0)))]) [2, 3] rfl) (k_X12_next l D cA qm (v.1 0) (v.1 1) (v.1 2) (v.1 3) (v.1 4) (v.1 5) (v.1 6) (v.1 7) (v.1 8) (v.1 9) (v.1 10) (v.1 11) (v.1 12) (v.1 13) (v.1 14) (v.1 15) (xs 1)) (tb_V tw_1717 tw_1718 tw_1719 tw_114 tw_1720) hdX12_next ⟨rfl, rfl, Nat.le_of_ble_eq_true rfl, Nat.le_of_ble_eq_true rfl⟩ ⟨Nat.le_of_ble_eq_true rfl, Nat.le_of_ble_eq_true rfl⟩ rfl rfl rfl hl.1 rfl (Nat.le_of_ble_eq_true rfl) dL_law_599 (fun r_4 hr_4 => ?_)
  obtain rfl : r_4 = (-2) := hr_4
  refine lv_icmp_eq (tgt := 2271) hx hb dL_law_602 (by decide) (fun c_5 => ?_) (fun c_5 => absurd (by decide) c_5)
  exact lawEnd l C0 hS (Nat.le_of_ble_eq_true rfl) (Nat.le_of_ble_eq_true rfl) (lv_sub hl [0, 1, 2, 3] rfl)
set_option maxHeartbeats 4000000 in
set_option maxRecDepth 100000 in
theorem law_c9 {p : Program} {e : Env} {s : State} {m : MethodId} {below : List Frame} {meth : Method} {c : Code} (l : Launch) {b : Nat} {xs : Nat → Int32} (C0 : lw_At p s m meth c b 6 xs) (D : va_G) (cA : Nat → ClassId) (hKN : KN D cA s) {H : Heap} {locs : List Loc} {ls : Array Slot} (qx qm : Nat) (u v : SU) (hP : va_P D vwCl (wXM cA qx qm u v) H) (hD : va_D (fun q : Nat => s.heap.size ≤ q) (wXM cA qx qm u v)) (hS : va_S (fun q : Nat => s.heap.size ≤ q) s.heap H locs) (hl : lv_has ls 4 [(3, .int 0), (2, .ref qm), (1, .ref qx), (0, .ref b)]) : W p l e room_1 s m #[Value.ref b] below meth c H locs 104 9712 (lw_Z below #[Value.ref b] s) (F0 m 607 ls []) := by
  obtain ⟨hx, hb, hr, hml, hown, hts0, hX, hbl, hlocks, hgv⟩ := id C0
  have hts : ∀ w ∈ TB, w.before _ s = true := fun w h => hts0 w (List.mem_filter.mp h).1
  have hb : c.code = cL_law := hb
  have hown : s.vm.findClass "WristTreatyLaw" = some m.cls := hown
  have hA : ∀ q : Nat, s.heap.size ≤ q → (fun q : Nat => s.heap.size ≤ q) q := fun _ h => h
  have hbA : ¬ (fun q : Nat => s.heap.size ≤ q) b := Nat.not_le.mpr hbl
  have hP := hP.sub (ws' := [(qx, .inr (11, [.ref (u.1 0), .ref (u.1 2), .ref (u.1 13), .ref (u.1 22), .ref (u.1 26), .ref (u.1 69), .ref (u.1 73), .ref (u.1 74), .ref (u.1 77), .ref (u.1 79), .ref (u.1 83)])), ((u.1 13), .inr (3, [.int 0, .int 0, .int 0, .int 0, .int 0, .int 0, .int 0, .int 0, .ref (u.1 14), .ref (u.1 15), .ref (u.1 16), .ref (u.1 17), .ref (u.1 18), .ref (u.1 19), .ref (u.1 20), .ref (u.1 21)])), (qm, .inr (12, [.int 0, .ref (v.1 0), .ref (v.1 1), .ref (v.1 2), .ref (v.1 3), .int 0, .ref (v.1 4), .int 0, .int 0, .int 0, .int 0, .int 0, .int 0, .int (-1), .ref (v.1 5), .int 0, .int 0, .int 0, .int 0, .int 0, .int 0, .ref (v.1 6), .ref (v.1 7), .ref (v.1 8), .ref (v.1 9), .int 0, .int 0, .ref (v.1 10), .int 0, .ref (v.1 11), .int 0, .ref (v.1 12), .ref (v.1 13), .ref (v.1 14), .ref (v.1 15)])), ((v.1 0), .inl (cA 1, 122, .inl (fun _ => 0)))]) [0, 14, 87, 88] rfl
  have hD := hD.sub (ws' := [(qx, .inr (11, [.ref (u.1 0), .ref (u.1 2), .ref (u.1 13), .ref (u.1 22), .ref (u.1 26), .ref (u.1 69), .ref (u.1 73), .ref (u.1 74), .ref (u.1 77), .ref (u.1 79), .ref (u.1 83)])), ((u.1 13), .inr (3, [.int 0, .int 0, .int 0, .int 0, .int 0, .int 0, .int 0, .int 0, .ref (u.1 14), .ref (u.1 15), .ref (u.1 16), .ref (u.1 17), .ref (u.1 18), .ref (u.1 19), .ref (u.1 20), .ref (u.1 21)])), (qm, .inr (12, [.int 0, .ref (v.1 0), .ref (v.1 1), .ref (v.1 2), .ref (v.1 3), .int 0, .ref (v.1 4), .int 0, .int 0, .int 0, .int 0, .int 0, .int 0, .int (-1), .ref (v.1 5), .int 0, .int 0, .int 0, .int 0, .int 0, .int 0, .ref (v.1 6), .ref (v.1 7), .ref (v.1 8), .ref (v.1 9), .int 0, .int 0, .ref (v.1 10), .int 0, .ref (v.1 11), .int 0, .ref (v.1 12), .ref (v.1 13), .ref (v.1 14), .ref (v.1 15)])), ((v.1 0), .inl (cA 1, 122, .inl (fun _ => 0)))]) [0, 14, 87, 88] (by decide) rfl
  refine lv_aload_n hx hb dL_law_607 rfl (lv_at hl 2 rfl) ?_
  refine lv_aload_n hx hb dL_law_608 rfl (lv_at hl 3 rfl) ?_
  refine lv_iload_n hx hb dL_law_609 rfl (lv_at hl 0 rfl) ?_
  refine lv_iconst (v := 1) hx hb dL_law_610 (by decide) ?_
  refine lv_iadd hx hb dL_law_611 ?_
  refine lv_topi (fun x_1 ex_1 => ?_)
  obtain rfl : x_1 = 1 := ex_1.trans (by decide)
  refine va_sld hx hb hX hbl hbA hS (L := 6) (by unfold vp_in; decide) dL_law_612 ?_
  refine W.eq (g2 := F0 m 613 ls [.int (xs 1), .ref qx]) rfl ?_
  refine cpVi (rest := []) ⟨hx, hb, hml, hown, hts⟩ hKN (hP.sub (ws' := [(qx, .inr (11, [.ref (u.1 0), .ref (u.1 2), .ref (u.1 13), .ref (u.1 22), .ref (u.1 26), .ref (u.1 69), .ref (u.1 73), .ref (u.1 74), .ref (u.1 77), .ref (u.1 79), .ref (u.1 83)])), ((u.1 13), .inr (3, [.int 0, .int 0, .int 0, .int 0, .int 0, .int 0, .int 0, .int 0, .ref (u.1 14), .ref (u.1 15), .ref (u.1 16), .ref (u.1 17), .ref (u.1 18), .ref (u.1 19), .ref (u.1 20), .ref (u.1 21)]))]) [0, 1] rfl) (k_X11_meetings l D cA qx (u.1 0) (u.1 2) (u.1 13) (u.1 22) (u.1 26) (u.1 69) (u.1 73) (u.1 74) (u.1 77) (u.1 79) (u.1 83) (u.1 14) (u.1 15) (u.1 16) (u.1 17) (u.1 18) (u.1 19) (u.1 20) (u.1 21) (xs 1)) (tb_V tw_790 tw_791 tw_792 tw_101 tw_793) hdX11_meetings ⟨rfl, rfl, Nat.le_of_ble_eq_true rfl, Nat.le_of_ble_eq_true rfl⟩ ⟨Nat.le_of_ble_eq_true rfl, Nat.le_of_ble_eq_true rfl⟩ rfl rfl rfl hl.1 rfl (Nat.le_of_ble_eq_true rfl) dL_law_613 (fun r_2 hr_2 => ?_)
  obtain rfl : r_2 = (-2) := hr_2
  refine lv_aload_n hx hb dL_law_616 rfl (lv_at hl 1 rfl) ?_
  refine lv_aload_n hx hb dL_law_617 rfl (lv_at hl 3 rfl) ?_
  refine lv_iload_n hx hb dL_law_618 rfl (lv_at hl 0 rfl) ?_
  refine lv_iconst (v := 1) hx hb dL_law_619 (by decide) ?_
  refine lv_iadd hx hb dL_law_620 ?_
  refine lv_topi (fun x_3 ex_3 => ?_)
  obtain rfl : x_3 = 1 := ex_3.trans (by decide)
  refine va_sld hx hb hX hbl hbA hS (L := 6) (by unfold vp_in; decide) dL_law_621 ?_
  refine W.eq (g2 := F0 m 622 ls [.int (xs 1), .ref qm, .int (-2)]) rfl ?_
  refine cpVi (rest := [.int (-2)]) ⟨hx, hb, hml, hown, hts⟩ hKN (hP.sub (ws' := [(qm, .inr (12, [.int 0, .ref (v.1 0), .ref (v.1 1), .ref (v.1 2), .ref (v.1 3), .int 0, .ref (v.1 4), .int 0, .int 0, .int 0, .int 0, .int 0, .int 0, .int (-1), .ref (v.1 5), .int 0, .int 0, .int 0, .int 0, .int 0, .int 0, .ref (v.1 6), .ref (v.1 7), .ref (v.1 8), .ref (v.1 9), .int 0, .int 0, .ref (v.1 10), .int 0, .ref (v.1 11), .int 0, .ref (v.1 12), .ref (v.1 13), .ref (v.1 14), .ref (v.1 15)])), ((v.1 0), .inl (cA 1, 122, .inl (fun _ => 0)))]) [2, 3] rfl) (k_X12_meetings l D cA qm (v.1 0) (v.1 1) (v.1 2) (v.1 3) (v.1 4) (v.1 5) (v.1 6) (v.1 7) (v.1 8) (v.1 9) (v.1 10) (v.1 11) (v.1 12) (v.1 13) (v.1 14) (v.1 15) (xs 1)) (tb_V tw_1722 tw_1723 tw_1724 tw_114 tw_1725) hdX12_meetings ⟨rfl, rfl, Nat.le_of_ble_eq_true rfl, Nat.le_of_ble_eq_true rfl⟩ ⟨Nat.le_of_ble_eq_true rfl, Nat.le_of_ble_eq_true rfl⟩ rfl rfl rfl hl.1 rfl (Nat.le_of_ble_eq_true rfl) dL_law_622 (fun r_4 hr_4 => ?_)
  obtain rfl : r_4 = (-2) := hr_4
  refine lv_icmp_eq (tgt := 2271) hx hb dL_law_625 (by decide) (fun c_5 => ?_) (fun c_5 => absurd (by decide) c_5)
  exact lawEnd l C0 hS (Nat.le_of_ble_eq_true rfl) (Nat.le_of_ble_eq_true rfl) (lv_sub hl [0, 1, 2, 3] rfl)

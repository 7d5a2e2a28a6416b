set_option maxHeartbeats 4000000 in
set_option maxRecDepth 100000 in
theorem law_c70 {p : Program} {e : Env} {s : State} {m : MethodId} {below : List Frame} {meth : Method} {c : Code} (l : Launch) {b : Nat} {xs : Nat → Int32} (C0 : lw_At p s m meth c b 6 xs) (D : va_G) (cA : Nat → ClassId) (hKN : KN D cA s) {H : Heap} {locs : List Loc} {ls : Array Slot} (qx qm : Nat) (u v : SU) (hP : va_P D vwCl (wXM cA qx qm u v) H) (hD : va_D (fun q : Nat => s.heap.size ≤ q) (wXM cA qx qm u v)) (hS : va_S (fun q : Nat => s.heap.size ≤ q) s.heap H locs) (hl : lv_has ls 4 [(3, .int 0), (2, .ref qm), (1, .ref qx), (0, .ref b)]) : W p l e room_1 s m #[Value.ref b] below meth c H locs 104 9712 (lw_Z below #[Value.ref b] s) (F0 m 2092 ls []) := by
  obtain ⟨hx, hb, hr, hml, hown, hts0, hX, hbl, hlocks, hgv⟩ := id C0
  have hts : ∀ w ∈ TB, w.before _ s = true := fun w h => hts0 w (List.mem_filter.mp h).1
  have hb : c.code = cL_law := hb
  have hown : s.vm.findClass "WristTreatyLaw" = some m.cls := hown
  have hA : ∀ q : Nat, s.heap.size ≤ q → (fun q : Nat => s.heap.size ≤ q) q := fun _ h => h
  have hbA : ¬ (fun q : Nat => s.heap.size ≤ q) b := Nat.not_le.mpr hbl
  have hP := hP.sub (ws' := [(qx, .inr (11, [.ref (u.1 0), .ref (u.1 2), .ref (u.1 13), .ref (u.1 22), .ref (u.1 26), .ref (u.1 69), .ref (u.1 73), .ref (u.1 74), .ref (u.1 77), .ref (u.1 79), .ref (u.1 83)])), ((u.1 69), .inr (7, [.ref (u.1 72), .ref (u.1 70), .ref (u.1 71)])), ((u.1 70), .inl (cA 1, 4, .inl (fun _ => 0))), ((u.1 71), .inl (cA 2, 240, .inr (.inl (fun _ => 0)))), ((u.1 72), .inl (cA 1, 4, .inl (fun _ => (-1)))), (qm, .inr (12, [.int 0, .ref (v.1 0), .ref (v.1 1), .ref (v.1 2), .ref (v.1 3), .int 0, .ref (v.1 4), .int 0, .int 0, .int 0, .int 0, .int 0, .int 0, .int (-1), .ref (v.1 5), .int 0, .int 0, .int 0, .int 0, .int 0, .int 0, .ref (v.1 6), .ref (v.1 7), .ref (v.1 8), .ref (v.1 9), .int 0, .int 0, .ref (v.1 10), .int 0, .ref (v.1 11), .int 0, .ref (v.1 12), .ref (v.1 13), .ref (v.1 14), .ref (v.1 15)])), ((v.1 12), .inl (cA 1, 4, .inl (fun _ => (-1)))), ((v.1 13), .inl (cA 1, 4, .inl (fun _ => 0))), ((v.1 14), .inl (cA 2, 240, .inr (.inl (fun _ => 0))))]) [0, 70, 71, 72, 73, 87, 100, 101, 102] rfl
  have hD := hD.sub (ws' := [(qx, .inr (11, [.ref (u.1 0), .ref (u.1 2), .ref (u.1 13), .ref (u.1 22), .ref (u.1 26), .ref (u.1 69), .ref (u.1 73), .ref (u.1 74), .ref (u.1 77), .ref (u.1 79), .ref (u.1 83)])), ((u.1 69), .inr (7, [.ref (u.1 72), .ref (u.1 70), .ref (u.1 71)])), ((u.1 70), .inl (cA 1, 4, .inl (fun _ => 0))), ((u.1 71), .inl (cA 2, 240, .inr (.inl (fun _ => 0)))), ((u.1 72), .inl (cA 1, 4, .inl (fun _ => (-1)))), (qm, .inr (12, [.int 0, .ref (v.1 0), .ref (v.1 1), .ref (v.1 2), .ref (v.1 3), .int 0, .ref (v.1 4), .int 0, .int 0, .int 0, .int 0, .int 0, .int 0, .int (-1), .ref (v.1 5), .int 0, .int 0, .int 0, .int 0, .int 0, .int 0, .ref (v.1 6), .ref (v.1 7), .ref (v.1 8), .ref (v.1 9), .int 0, .int 0, .ref (v.1 10), .int 0, .ref (v.1 11), .int 0, .ref (v.1 12), .ref (v.1 13), .ref (v.1 14), .ref (v.1 15)])), ((v.1 12), .inl (cA 1, 4, .inl (fun _ => (-1)))), ((v.1 13), .inl (cA 1, 4, .inl (fun _ => 0))), ((v.1 14), .inl (cA 2, 240, .inr (.inl (fun _ => 0))))]) [0, 70, 71, 72, 73, 87, 100, 101, 102] (by decide) rfl
  refine lv_aload_n hx hb dL_law_2092 rfl (lv_at hl 2 rfl) ?_
  refine lv_aload_n hx hb dL_law_2093 rfl (lv_at hl 3 rfl) ?_
  refine lv_iload_n hx hb dL_law_2094 rfl (lv_at hl 0 rfl) ?_
  refine lv_iconst (v := 1) hx hb dL_law_2095 (by decide) ?_
  refine lv_iadd hx hb dL_law_2096 ?_
  refine lv_topi (fun x_1 ex_1 => ?_)
  obtain rfl : x_1 = 1 := ex_1.trans (by decide)
  refine va_sld hx hb hX hbl hbA hS (L := 6) (by unfold vp_in; decide) dL_law_2097 ?_
  refine W.eq (g2 := F0 m 2098 ls [.int (xs 1), .ref qx]) rfl ?_
  refine lv_aload_n hx hb dL_law_2098 rfl (lv_at hl 3 rfl) ?_
  refine lv_iload_n hx hb dL_law_2099 rfl (lv_at hl 0 rfl) ?_
  refine lv_iconst (v := 2) hx hb dL_law_2100 (by decide) ?_
  refine lv_iadd hx hb dL_law_2101 ?_
  refine lv_topi (fun x_2 ex_2 => ?_)
  obtain rfl : x_2 = 2 := ex_2.trans (by decide)
  refine va_sld hx hb hX hbl hbA hS (L := 6) (by unfold vp_in; decide) dL_law_2102 ?_
  refine W.eq (g2 := F0 m 2103 ls [.int (xs 2), .int (xs 1), .ref qx]) rfl ?_
  refine lv_aload_n hx hb dL_law_2103 rfl (lv_at hl 3 rfl) ?_
  refine lv_iload_n hx hb dL_law_2104 rfl (lv_at hl 0 rfl) ?_
  refine lv_iconst (v := 3) hx hb dL_law_2105 (by decide) ?_
  refine lv_iadd hx hb dL_law_2106 ?_
  refine lv_topi (fun x_3 ex_3 => ?_)
  obtain rfl : x_3 = 3 := ex_3.trans (by decide)
  refine va_sld hx hb hX hbl hbA hS (L := 6) (by unfold vp_in; decide) dL_law_2107 ?_
  refine W.eq (g2 := F0 m 2108 ls [.int (xs 3), .int (xs 2), .int (xs 1), .ref qx]) rfl ?_
  refine cmVi (rest := []) (wsC := [(qx, .inr (11, [.ref (u.1 0), .ref (u.1 2), .ref (u.1 13), .ref (u.1 22), .ref (u.1 26), .ref (u.1 69), .ref (u.1 73), .ref (u.1 74), .ref (u.1 77), .ref (u.1 79), .ref (u.1 83)])), ((u.1 69), .inr (7, [.ref (u.1 72), .ref (u.1 70), .ref (u.1 71)])), ((u.1 72), .inl (cA 1, 4, .inl (fun _ => (-1)))), ((u.1 70), .inl (cA 1, 4, .inl (fun _ => 0))), ((u.1 71), .inl (cA 2, 240, .inr (.inl (fun _ => 0))))]) (wr := [(qm, .inr (12, [.int 0, .ref (v.1 0), .ref (v.1 1), .ref (v.1 2), .ref (v.1 3), .int 0, .ref (v.1 4), .int 0, .int 0, .int 0, .int 0, .int 0, .int 0, .int (-1), .ref (v.1 5), .int 0, .int 0, .int 0, .int 0, .int 0, .int 0, .ref (v.1 6), .ref (v.1 7), .ref (v.1 8), .ref (v.1 9), .int 0, .int 0, .ref (v.1 10), .int 0, .ref (v.1 11), .int 0, .ref (v.1 12), .ref (v.1 13), .ref (v.1 14), .ref (v.1 15)])), ((v.1 12), .inl (cA 1, 4, .inl (fun _ => (-1)))), ((v.1 13), .inl (cA 1, 4, .inl (fun _ => 0))), ((v.1 14), .inl (cA 2, 240, .inr (.inl (fun _ => 0))))]) ⟨hx, hb, hml, hown, hts⟩ hKN hP hD hS hA [0, 1, 4, 2, 3] [5, 6, 7, 8] rfl rfl (by decide) (by decide) (by decide) (k_X11_row l D cA _ qx (u.1 0) (u.1 2) (u.1 13) (u.1 22) (u.1 26) (u.1 69) (u.1 73) (u.1 74) (u.1 77) (u.1 79) (u.1 83) (u.1 72) (u.1 70) (u.1 71) (fun _ => (-1)) (fun _ => 0) (fun _ => 0) (xs 1) (xs 2) (xs 3)) (tb_V tw_1381 tw_1382 tw_1383 tw_101 tw_1384) hdX11_row ⟨rfl, rfl, Nat.le_of_ble_eq_true rfl, Nat.le_of_ble_eq_true rfl⟩ ⟨Nat.le_of_ble_eq_true rfl, Nat.le_of_ble_eq_true rfl⟩ rfl rfl rfl hl.1 rfl (Nat.le_of_ble_eq_true rfl) dL_law_2108 (fun r_4 u_4 H locs hr_4 hP hD hS => ?_)
  have hP : va_P D vwCl [(qm, .inr (12, [.int 0, .ref (v.1 0), .ref (v.1 1), .ref (v.1 2), .ref (v.1 3), .int 0, .ref (v.1 4), .int 0, .int 0, .int 0, .int 0, .int 0, .int 0, .int (-1), .ref (v.1 5), .int 0, .int 0, .int 0, .int 0, .int 0, .int 0, .ref (v.1 6), .ref (v.1 7), .ref (v.1 8), .ref (v.1 9), .int 0, .int 0, .ref (v.1 10), .int 0, .ref (v.1 11), .int 0, .ref (v.1 12), .ref (v.1 13), .ref (v.1 14), .ref (v.1 15)])), ((v.1 12), .inl (cA 1, 4, .inl (fun _ => (-1)))), ((v.1 13), .inl (cA 1, 4, .inl (fun _ => 0))), ((v.1 14), .inl (cA 2, 240, .inr (.inl (fun _ => 0))))] H := hP
  have hD : va_D (fun q : Nat => s.heap.size ≤ q) [(qm, .inr (12, [.int 0, .ref (v.1 0), .ref (v.1 1), .ref (v.1 2), .ref (v.1 3), .int 0, .ref (v.1 4), .int 0, .int 0, .int 0, .int 0, .int 0, .int 0, .int (-1), .ref (v.1 5), .int 0, .int 0, .int 0, .int 0, .int 0, .int 0, .ref (v.1 6), .ref (v.1 7), .ref (v.1 8), .ref (v.1 9), .int 0, .int 0, .ref (v.1 10), .int 0, .ref (v.1 11), .int 0, .ref (v.1 12), .ref (v.1 13), .ref (v.1 14), .ref (v.1 15)])), ((v.1 12), .inl (cA 1, 4, .inl (fun _ => (-1)))), ((v.1 13), .inl (cA 1, 4, .inl (fun _ => 0))), ((v.1 14), .inl (cA 2, 240, .inr (.inl (fun _ => 0))))] := hD
  rcases hr_4 with ⟨k_4_0, rfl⟩ | ⟨k_4_1, rfl⟩ | ⟨k_4_2, rfl⟩
  · skip
    refine lv_aload_n hx hb dL_law_2111 rfl (lv_at hl 1 rfl) ?_
    refine lv_aload_n hx hb dL_law_2112 rfl (lv_at hl 3 rfl) ?_
    refine lv_iload_n hx hb dL_law_2113 rfl (lv_at hl 0 rfl) ?_
    refine lv_iconst (v := 1) hx hb dL_law_2114 (by decide) ?_
    refine lv_iadd hx hb dL_law_2115 ?_
    refine lv_topi (fun x_5 ex_5 => ?_)
    obtain rfl : x_5 = 1 := ex_5.trans (by decide)
    refine va_sld hx hb hX hbl hbA hS (L := 6) (by unfold vp_in; decide) dL_law_2116 ?_
    refine W.eq (g2 := F0 m 2117 ls [.int (xs 1), .ref qm, .int 0]) rfl ?_
    refine lv_aload_n hx hb dL_law_2117 rfl (lv_at hl 3 rfl) ?_
    refine lv_iload_n hx hb dL_law_2118 rfl (lv_at hl 0 rfl) ?_
    refine lv_iconst (v := 2) hx hb dL_law_2119 (by decide) ?_
    refine lv_iadd hx hb dL_law_2120 ?_
    refine lv_topi (fun x_6 ex_6 => ?_)
    obtain rfl : x_6 = 2 := ex_6.trans (by decide)
    refine va_sld hx hb hX hbl hbA hS (L := 6) (by unfold vp_in; decide) dL_law_2121 ?_
    refine W.eq (g2 := F0 m 2122 ls [.int (xs 2), .int (xs 1), .ref qm, .int 0]) rfl ?_
    refine lv_aload_n hx hb dL_law_2122 rfl (lv_at hl 3 rfl) ?_
    refine lv_iload_n hx hb dL_law_2123 rfl (lv_at hl 0 rfl) ?_
    refine lv_iconst (v := 3) hx hb dL_law_2124 (by decide) ?_
    refine lv_iadd hx hb dL_law_2125 ?_
    refine lv_topi (fun x_7 ex_7 => ?_)
    obtain rfl : x_7 = 3 := ex_7.trans (by decide)
    refine va_sld hx hb hX hbl hbA hS (L := 6) (by unfold vp_in; decide) dL_law_2126 ?_
    refine W.eq (g2 := F0 m 2127 ls [.int (xs 3), .int (xs 2), .int (xs 1), .ref qm, .int 0]) rfl ?_
    refine cmVi (rest := [.int 0]) (wsC := [(qm, .inr (12, [.int 0, .ref (v.1 0), .ref (v.1 1), .ref (v.1 2), .ref (v.1 3), .int 0, .ref (v.1 4), .int 0, .int 0, .int 0, .int 0, .int 0, .int 0, .int (-1), .ref (v.1 5), .int 0, .int 0, .int 0, .int 0, .int 0, .int 0, .ref (v.1 6), .ref (v.1 7), .ref (v.1 8), .ref (v.1 9), .int 0, .int 0, .ref (v.1 10), .int 0, .ref (v.1 11), .int 0, .ref (v.1 12), .ref (v.1 13), .ref (v.1 14), .ref (v.1 15)])), ((v.1 12), .inl (cA 1, 4, .inl (fun _ => (-1)))), ((v.1 13), .inl (cA 1, 4, .inl (fun _ => 0))), ((v.1 14), .inl (cA 2, 240, .inr (.inl (fun _ => 0))))]) (wr := []) ⟨hx, hb, hml, hown, hts⟩ hKN hP hD hS hA [0, 1, 2, 3] [] rfl rfl (by decide) (by decide) (by decide) (k_X12_row l D cA _ qm (v.1 0) (v.1 1) (v.1 2) (v.1 3) (v.1 4) (v.1 5) (v.1 6) (v.1 7) (v.1 8) (v.1 9) (v.1 10) (v.1 11) (v.1 12) (v.1 13) (v.1 14) (v.1 15) (fun _ => (-1)) (fun _ => 0) (xs 1) (xs 2) (xs 3)) (tb_V tw_2137 tw_2138 tw_2139 tw_114 tw_2140) hdX12_row ⟨rfl, rfl, Nat.le_of_ble_eq_true rfl, Nat.le_of_ble_eq_true rfl⟩ ⟨Nat.le_of_ble_eq_true rfl, Nat.le_of_ble_eq_true rfl⟩ rfl rfl rfl hl.1 rfl (Nat.le_of_ble_eq_true rfl) dL_law_2127 (fun r_8 u_8 H locs hr_8 hP hD hS => ?_)
    have hP : va_P D vwCl [] H := hP
    have hD : va_D (fun q : Nat => s.heap.size ≤ q) [] := hD
    rcases hr_8 with ⟨k_8_0, rfl⟩ | ⟨k_8_1, rfl⟩ | ⟨k_8_2, rfl⟩
    · skip
      refine lv_icmp_eq (tgt := 2271) hx hb dL_law_2130 (by decide) (fun c_9 => ?_) (fun c_9 => absurd (by decide) c_9)
      exact lawEnd l C0 hS (Nat.le_of_ble_eq_true rfl) (Nat.le_of_ble_eq_true rfl) (lv_sub hl [0, 1, 2, 3] rfl)
    · skip
      exfalso
      omega
    · skip
      exfalso
      omega
  · skip
    refine lv_aload_n hx hb dL_law_2111 rfl (lv_at hl 1 rfl) ?_
    refine lv_aload_n hx hb dL_law_2112 rfl (lv_at hl 3 rfl) ?_
    refine lv_iload_n hx hb dL_law_2113 rfl (lv_at hl 0 rfl) ?_
    refine lv_iconst (v := 1) hx hb dL_law_2114 (by decide) ?_
    refine lv_iadd hx hb dL_law_2115 ?_
    refine lv_topi (fun x_10 ex_10 => ?_)
    obtain rfl : x_10 = 1 := ex_10.trans (by decide)
    refine va_sld hx hb hX hbl hbA hS (L := 6) (by unfold vp_in; decide) dL_law_2116 ?_
    refine W.eq (g2 := F0 m 2117 ls [.int (xs 1), .ref qm, .int (-2)]) rfl ?_
    refine lv_aload_n hx hb dL_law_2117 rfl (lv_at hl 3 rfl) ?_
    refine lv_iload_n hx hb dL_law_2118 rfl (lv_at hl 0 rfl) ?_
    refine lv_iconst (v := 2) hx hb dL_law_2119 (by decide) ?_
    refine lv_iadd hx hb dL_law_2120 ?_
    refine lv_topi (fun x_11 ex_11 => ?_)
    obtain rfl : x_11 = 2 := ex_11.trans (by decide)
    refine va_sld hx hb hX hbl hbA hS (L := 6) (by unfold vp_in; decide) dL_law_2121 ?_
    refine W.eq (g2 := F0 m 2122 ls [.int (xs 2), .int (xs 1), .ref qm, .int (-2)]) rfl ?_
    refine lv_aload_n hx hb dL_law_2122 rfl (lv_at hl 3 rfl) ?_
    refine lv_iload_n hx hb dL_law_2123 rfl (lv_at hl 0 rfl) ?_
    refine lv_iconst (v := 3) hx hb dL_law_2124 (by decide) ?_
    refine lv_iadd hx hb dL_law_2125 ?_
    refine lv_topi (fun x_12 ex_12 => ?_)
    obtain rfl : x_12 = 3 := ex_12.trans (by decide)
    refine va_sld hx hb hX hbl hbA hS (L := 6) (by unfold vp_in; decide) dL_law_2126 ?_
    refine W.eq (g2 := F0 m 2127 ls [.int (xs 3), .int (xs 2), .int (xs 1), .ref qm, .int (-2)]) rfl ?_
    refine cmVi (rest := [.int (-2)]) (wsC := [(qm, .inr (12, [.int 0, .ref (v.1 0), .ref (v.1 1), .ref (v.1 2), .ref (v.1 3), .int 0, .ref (v.1 4), .int 0, .int 0, .int 0, .int 0, .int 0, .int 0, .int (-1), .ref (v.1 5), .int 0, .int 0, .int 0, .int 0, .int 0, .int 0, .ref (v.1 6), .ref (v.1 7), .ref (v.1 8), .ref (v.1 9), .int 0, .int 0, .ref (v.1 10), .int 0, .ref (v.1 11), .int 0, .ref (v.1 12), .ref (v.1 13), .ref (v.1 14), .ref (v.1 15)])), ((v.1 12), .inl (cA 1, 4, .inl (fun _ => (-1)))), ((v.1 13), .inl (cA 1, 4, .inl (fun _ => 0))), ((v.1 14), .inl (cA 2, 240, .inr (.inl (fun _ => 0))))]) (wr := []) ⟨hx, hb, hml, hown, hts⟩ hKN hP hD hS hA [0, 1, 2, 3] [] rfl rfl (by decide) (by decide) (by decide) (k_X12_row l D cA _ qm (v.1 0) (v.1 1) (v.1 2) (v.1 3) (v.1 4) (v.1 5) (v.1 6) (v.1 7) (v.1 8) (v.1 9) (v.1 10) (v.1 11) (v.1 12) (v.1 13) (v.1 14) (v.1 15) (fun _ => (-1)) (fun _ => 0) (xs 1) (xs 2) (xs 3)) (tb_V tw_2137 tw_2138 tw_2139 tw_114 tw_2140) hdX12_row ⟨rfl, rfl, Nat.le_of_ble_eq_true rfl, Nat.le_of_ble_eq_true rfl⟩ ⟨Nat.le_of_ble_eq_true rfl, Nat.le_of_ble_eq_true rfl⟩ rfl rfl rfl hl.1 rfl (Nat.le_of_ble_eq_true rfl) dL_law_2127 (fun r_13 u_13 H locs hr_13 hP hD hS => ?_)
    have hP : va_P D vwCl [] H := hP
    have hD : va_D (fun q : Nat => s.heap.size ≤ q) [] := hD
    rcases hr_13 with ⟨k_13_0, rfl⟩ | ⟨k_13_1, rfl⟩ | ⟨k_13_2, rfl⟩
    · skip
      exfalso
      omega
    · skip
      refine lv_icmp_eq (tgt := 2271) hx hb dL_law_2130 (by decide) (fun c_14 => ?_) (fun c_14 => absurd (by decide) c_14)
      exact lawEnd l C0 hS (Nat.le_of_ble_eq_true rfl) (Nat.le_of_ble_eq_true rfl) (lv_sub hl [0, 1, 2, 3] rfl)
    · skip
      exfalso
      omega
  · skip
    refine lv_aload_n hx hb dL_law_2111 rfl (lv_at hl 1 rfl) ?_
    refine lv_aload_n hx hb dL_law_2112 rfl (lv_at hl 3 rfl) ?_
    refine lv_iload_n hx hb dL_law_2113 rfl (lv_at hl 0 rfl) ?_
    refine lv_iconst (v := 1) hx hb dL_law_2114 (by decide) ?_
    refine lv_iadd hx hb dL_law_2115 ?_
    refine lv_topi (fun x_15 ex_15 => ?_)
    obtain rfl : x_15 = 1 := ex_15.trans (by decide)
    refine va_sld hx hb hX hbl hbA hS (L := 6) (by unfold vp_in; decide) dL_law_2116 ?_
    refine W.eq (g2 := F0 m 2117 ls [.int (xs 1), .ref qm, .int (-3)]) rfl ?_
    refine lv_aload_n hx hb dL_law_2117 rfl (lv_at hl 3 rfl) ?_
    refine lv_iload_n hx hb dL_law_2118 rfl (lv_at hl 0 rfl) ?_
    refine lv_iconst (v := 2) hx hb dL_law_2119 (by decide) ?_
    refine lv_iadd hx hb dL_law_2120 ?_
    refine lv_topi (fun x_16 ex_16 => ?_)
    obtain rfl : x_16 = 2 := ex_16.trans (by decide)
    refine va_sld hx hb hX hbl hbA hS (L := 6) (by unfold vp_in; decide) dL_law_2121 ?_
    refine W.eq (g2 := F0 m 2122 ls [.int (xs 2), .int (xs 1), .ref qm, .int (-3)]) rfl ?_
    refine lv_aload_n hx hb dL_law_2122 rfl (lv_at hl 3 rfl) ?_
    refine lv_iload_n hx hb dL_law_2123 rfl (lv_at hl 0 rfl) ?_
    refine lv_iconst (v := 3) hx hb dL_law_2124 (by decide) ?_
    refine lv_iadd hx hb dL_law_2125 ?_
    refine lv_topi (fun x_17 ex_17 => ?_)
    obtain rfl : x_17 = 3 := ex_17.trans (by decide)
    refine va_sld hx hb hX hbl hbA hS (L := 6) (by unfold vp_in; decide) dL_law_2126 ?_
    refine W.eq (g2 := F0 m 2127 ls [.int (xs 3), .int (xs 2), .int (xs 1), .ref qm, .int (-3)]) rfl ?_
    refine cmVi (rest := [.int (-3)]) (wsC := [(qm, .inr (12, [.int 0, .ref (v.1 0), .ref (v.1 1), .ref (v.1 2), .ref (v.1 3), .int 0, .ref (v.1 4), .int 0, .int 0, .int 0, .int 0, .int 0, .int 0, .int (-1), .ref (v.1 5), .int 0, .int 0, .int 0, .int 0, .int 0, .int 0, .ref (v.1 6), .ref (v.1 7), .ref (v.1 8), .ref (v.1 9), .int 0, .int 0, .ref (v.1 10), .int 0, .ref (v.1 11), .int 0, .ref (v.1 12), .ref (v.1 13), .ref (v.1 14), .ref (v.1 15)])), ((v.1 12), .inl (cA 1, 4, .inl (fun _ => (-1)))), ((v.1 13), .inl (cA 1, 4, .inl (fun _ => 0))), ((v.1 14), .inl (cA 2, 240, .inr (.inl (fun _ => 0))))]) (wr := []) ⟨hx, hb, hml, hown, hts⟩ hKN hP hD hS hA [0, 1, 2, 3] [] rfl rfl (by decide) (by decide) (by decide) (k_X12_row l D cA _ qm (v.1 0) (v.1 1) (v.1 2) (v.1 3) (v.1 4) (v.1 5) (v.1 6) (v.1 7) (v.1 8) (v.1 9) (v.1 10) (v.1 11) (v.1 12) (v.1 13) (v.1 14) (v.1 15) (fun _ => (-1)) (fun _ => 0) (xs 1) (xs 2) (xs 3)) (tb_V tw_2137 tw_2138 tw_2139 tw_114 tw_2140) hdX12_row ⟨rfl, rfl, Nat.le_of_ble_eq_true rfl, Nat.le_of_ble_eq_true rfl⟩ ⟨Nat.le_of_ble_eq_true rfl, Nat.le_of_ble_eq_true rfl⟩ rfl rfl rfl hl.1 rfl (Nat.le_of_ble_eq_true rfl) dL_law_2127 (fun r_18 u_18 H locs hr_18 hP hD hS => ?_)
    have hP : va_P D vwCl [] H := hP
    have hD : va_D (fun q : Nat => s.heap.size ≤ q) [] := hD
    rcases hr_18 with ⟨k_18_0, rfl⟩ | ⟨k_18_1, rfl⟩ | ⟨k_18_2, rfl⟩
    · skip
      exfalso
      omega
    · skip
      exfalso
      omega
    · skip
      refine lv_icmp_eq (tgt := 2271) hx hb dL_law_2130 (by decide) (fun c_19 => ?_) (fun c_19 => absurd (by decide) c_19)
      exact lawEnd l C0 hS (Nat.le_of_ble_eq_true rfl) (Nat.le_of_ble_eq_true rfl) (lv_sub hl [0, 1, 2, 3] rfl)
set_option maxHeartbeats 4000000 in
set_option maxRecDepth 100000 in
theorem law_c71 {p : Program} {e : Env} {s : State} {m : MethodId} {below : List Frame} {meth : Method} {c : Code} (l : Launch) {b : Nat} {xs : Nat → Int32} (C0 : lw_At p s m meth c b 6 xs) (D : va_G) (cA : Nat → ClassId) (hKN : KN D cA s) {H : Heap} {locs : List Loc} {ls : Array Slot} (qx qm : Nat) (u v : SU) (hP : va_P D vwCl (wXM cA qx qm u v) H) (hD : va_D (fun q : Nat => s.heap.size ≤ q) (wXM cA qx qm u v)) (hS : va_S (fun q : Nat => s.heap.size ≤ q) s.heap H locs) (hl : lv_has ls 4 [(3, .int 0), (2, .ref qm), (1, .ref qx), (0, .ref b)]) : W p l e room_1 s m #[Value.ref b] below meth c H locs 104 9712 (lw_Z below #[Value.ref b] s) (F0 m 2135 ls []) := by
  obtain ⟨hx, hb, hr, hml, hown, hts0, hX, hbl, hlocks, hgv⟩ := id C0
  have hts : ∀ w ∈ TB, w.before _ s = true := fun w h => hts0 w (List.mem_filter.mp h).1
  have hb : c.code = cL_law := hb
  have hown : s.vm.findClass "WristTreatyLaw" = some m.cls := hown
  have hA : ∀ q : Nat, s.heap.size ≤ q → (fun q : Nat => s.heap.size ≤ q) q := fun _ h => h
  have hbA : ¬ (fun q : Nat => s.heap.size ≤ q) b := Nat.not_le.mpr hbl
  have hP := hP.sub (ws' := [(qx, .inr (11, [.ref (u.1 0), .ref (u.1 2), .ref (u.1 13), .ref (u.1 22), .ref (u.1 26), .ref (u.1 69), .ref (u.1 73), .ref (u.1 74), .ref (u.1 77), .ref (u.1 79), .ref (u.1 83)])), ((u.1 69), .inr (7, [.ref (u.1 72), .ref (u.1 70), .ref (u.1 71)])), ((u.1 72), .inl (cA 1, 4, .inl (fun _ => (-1)))), (qm, .inr (12, [.int 0, .ref (v.1 0), .ref (v.1 1), .ref (v.1 2), .ref (v.1 3), .int 0, .ref (v.1 4), .int 0, .int 0, .int 0, .int 0, .int 0, .int 0, .int (-1), .ref (v.1 5), .int 0, .int 0, .int 0, .int 0, .int 0, .int 0, .ref (v.1 6), .ref (v.1 7), .ref (v.1 8), .ref (v.1 9), .int 0, .int 0, .ref (v.1 10), .int 0, .ref (v.1 11), .int 0, .ref (v.1 12), .ref (v.1 13), .ref (v.1 14), .ref (v.1 15)])), ((v.1 12), .inl (cA 1, 4, .inl (fun _ => (-1))))]) [0, 70, 73, 87, 100] rfl
  have hD := hD.sub (ws' := [(qx, .inr (11, [.ref (u.1 0), .ref (u.1 2), .ref (u.1 13), .ref (u.1 22), .ref (u.1 26), .ref (u.1 69), .ref (u.1 73), .ref (u.1 74), .ref (u.1 77), .ref (u.1 79), .ref (u.1 83)])), ((u.1 69), .inr (7, [.ref (u.1 72), .ref (u.1 70), .ref (u.1 71)])), ((u.1 72), .inl (cA 1, 4, .inl (fun _ => (-1)))), (qm, .inr (12, [.int 0, .ref (v.1 0), .ref (v.1 1), .ref (v.1 2), .ref (v.1 3), .int 0, .ref (v.1 4), .int 0, .int 0, .int 0, .int 0, .int 0, .int 0, .int (-1), .ref (v.1 5), .int 0, .int 0, .int 0, .int 0, .int 0, .int 0, .ref (v.1 6), .ref (v.1 7), .ref (v.1 8), .ref (v.1 9), .int 0, .int 0, .ref (v.1 10), .int 0, .ref (v.1 11), .int 0, .ref (v.1 12), .ref (v.1 13), .ref (v.1 14), .ref (v.1 15)])), ((v.1 12), .inl (cA 1, 4, .inl (fun _ => (-1))))]) [0, 70, 73, 87, 100] (by decide) rfl
  refine lv_aload_n hx hb dL_law_2135 rfl (lv_at hl 2 rfl) ?_
  refine lv_aload_n hx hb dL_law_2136 rfl (lv_at hl 3 rfl) ?_
  refine lv_iload_n hx hb dL_law_2137 rfl (lv_at hl 0 rfl) ?_
  refine lv_iconst (v := 1) hx hb dL_law_2138 (by decide) ?_
  refine lv_iadd hx hb dL_law_2139 ?_
  refine lv_topi (fun x_1 ex_1 => ?_)
  obtain rfl : x_1 = 1 := ex_1.trans (by decide)
  refine va_sld hx hb hX hbl hbA hS (L := 6) (by unfold vp_in; decide) dL_law_2140 ?_
  refine W.eq (g2 := F0 m 2141 ls [.int (xs 1), .ref qx]) rfl ?_
  refine lv_aload_n hx hb dL_law_2141 rfl (lv_at hl 3 rfl) ?_
  refine lv_iload_n hx hb dL_law_2142 rfl (lv_at hl 0 rfl) ?_
  refine lv_iconst (v := 2) hx hb dL_law_2143 (by decide) ?_
  refine lv_iadd hx hb dL_law_2144 ?_
  refine lv_topi (fun x_2 ex_2 => ?_)
  obtain rfl : x_2 = 2 := ex_2.trans (by decide)
  refine va_sld hx hb hX hbl hbA hS (L := 6) (by unfold vp_in; decide) dL_law_2145 ?_
  refine W.eq (g2 := F0 m 2146 ls [.int (xs 2), .int (xs 1), .ref qx]) rfl ?_
  refine lv_aload_n hx hb dL_law_2146 rfl (lv_at hl 3 rfl) ?_
  refine lv_iload_n hx hb dL_law_2147 rfl (lv_at hl 0 rfl) ?_
  refine lv_iconst (v := 3) hx hb dL_law_2148 (by decide) ?_
  refine lv_iadd hx hb dL_law_2149 ?_
  refine lv_topi (fun x_3 ex_3 => ?_)
  obtain rfl : x_3 = 3 := ex_3.trans (by decide)
  refine va_sld hx hb hX hbl hbA hS (L := 6) (by unfold vp_in; decide) dL_law_2150 ?_
  refine W.eq (g2 := F0 m 2151 ls [.int (xs 3), .int (xs 2), .int (xs 1), .ref qx]) rfl ?_
  obtain ⟨x_4, ex_4⟩ : ∃ y, ((xs 3)).toInt64 = y := ⟨_, rfl⟩
  refine lv_i2l (v := x_4) hx hb dL_law_2151 ex_4 ?_
  have k_5 := tt_i2l ex_4
  refine lv_bipush (v := 32) hx hb dL_law_2152 (by decide) ?_
  obtain ⟨x_6, ex_6⟩ : ∃ y : Int64, x_4 <<< ((32 : Int32).toInt64 &&& 63) = y := ⟨_, rfl⟩
  refine lv_lshl (v := x_6) hx hb dL_law_2154 ex_6 ?_
  refine lv_aload_n hx hb dL_law_2155 rfl (lv_at hl 3 rfl) ?_
  refine lv_iload_n hx hb dL_law_2156 rfl (lv_at hl 0 rfl) ?_
  refine lv_iconst (v := 4) hx hb dL_law_2157 (by decide) ?_
  refine lv_iadd hx hb dL_law_2158 ?_
  refine lv_topi (fun x_7 ex_7 => ?_)
  obtain rfl : x_7 = 4 := ex_7.trans (by decide)
  refine va_sld hx hb hX hbl hbA hS (L := 6) (by unfold vp_in; decide) dL_law_2159 ?_
  refine W.eq (g2 := F0 m 2160 ls [.int (xs 4), .long x_6, .int (xs 2), .int (xs 1), .ref qx]) rfl ?_
  obtain ⟨x_8, ex_8⟩ : ∃ y, ((xs 4)).toInt64 = y := ⟨_, rfl⟩
  refine lv_i2l (v := x_8) hx hb dL_law_2160 ex_8 ?_
  have k_9 := tt_i2l ex_8
  refine lv_ldc2 (v := 4294967295) hx hb hown (hts _ tw_2152) dL_law_2161 ?_
  refine lv_land hx hb dL_law_2164 ?_
  refine lv_topl (fun x_10 ex_10 => ?_)
  refine lv_lor hx hb dL_law_2165 ?_
  refine lv_topl (fun x_11 ex_11 => ?_)
  refine cpVi (rest := []) ⟨hx, hb, hml, hown, hts⟩ hKN (hP.sub (ws' := [(qx, .inr (11, [.ref (u.1 0), .ref (u.1 2), .ref (u.1 13), .ref (u.1 22), .ref (u.1 26), .ref (u.1 69), .ref (u.1 73), .ref (u.1 74), .ref (u.1 77), .ref (u.1 79), .ref (u.1 83)])), ((u.1 69), .inr (7, [.ref (u.1 72), .ref (u.1 70), .ref (u.1 71)])), ((u.1 72), .inl (cA 1, 4, .inl (fun _ => (-1))))]) [0, 1, 2] rfl) (k_X11_write l D cA qx (u.1 0) (u.1 2) (u.1 13) (u.1 22) (u.1 26) (u.1 69) (u.1 73) (u.1 74) (u.1 77) (u.1 79) (u.1 83) (u.1 72) (u.1 70) (u.1 71) (xs 1) (xs 2) x_11) (tb_V tw_1389 tw_1390 tw_1391 tw_101 tw_1392) hdX11_write ⟨rfl, rfl, Nat.le_of_ble_eq_true rfl, Nat.le_of_ble_eq_true rfl⟩ ⟨Nat.le_of_ble_eq_true rfl, Nat.le_of_ble_eq_true rfl⟩ rfl rfl rfl hl.1 rfl (Nat.le_of_ble_eq_true rfl) dL_law_2166 (fun r_12 hr_12 => ?_)
  rcases hr_12 with ⟨k_12_0, rfl⟩ | ⟨k_12_1, rfl⟩
  · skip
    refine lv_aload_n hx hb dL_law_2169 rfl (lv_at hl 1 rfl) ?_
    refine lv_aload_n hx hb dL_law_2170 rfl (lv_at hl 3 rfl) ?_
    refine lv_iload_n hx hb dL_law_2171 rfl (lv_at hl 0 rfl) ?_
    refine lv_iconst (v := 1) hx hb dL_law_2172 (by decide) ?_
    refine lv_iadd hx hb dL_law_2173 ?_
    refine lv_topi (fun x_13 ex_13 => ?_)
    obtain rfl : x_13 = 1 := ex_13.trans (by decide)
    refine va_sld hx hb hX hbl hbA hS (L := 6) (by unfold vp_in; decide) dL_law_2174 ?_
    refine W.eq (g2 := F0 m 2175 ls [.int (xs 1), .ref qm, .int (-6)]) rfl ?_
    refine lv_aload_n hx hb dL_law_2175 rfl (lv_at hl 3 rfl) ?_
    refine lv_iload_n hx hb dL_law_2176 rfl (lv_at hl 0 rfl) ?_
    refine lv_iconst (v := 2) hx hb dL_law_2177 (by decide) ?_
    refine lv_iadd hx hb dL_law_2178 ?_
    refine lv_topi (fun x_14 ex_14 => ?_)
    obtain rfl : x_14 = 2 := ex_14.trans (by decide)
    refine va_sld hx hb hX hbl hbA hS (L := 6) (by unfold vp_in; decide) dL_law_2179 ?_
    refine W.eq (g2 := F0 m 2180 ls [.int (xs 2), .int (xs 1), .ref qm, .int (-6)]) rfl ?_
    refine lv_aload_n hx hb dL_law_2180 rfl (lv_at hl 3 rfl) ?_
    refine lv_iload_n hx hb dL_law_2181 rfl (lv_at hl 0 rfl) ?_
    refine lv_iconst (v := 3) hx hb dL_law_2182 (by decide) ?_
    refine lv_iadd hx hb dL_law_2183 ?_
    refine lv_topi (fun x_15 ex_15 => ?_)
    obtain rfl : x_15 = 3 := ex_15.trans (by decide)
    refine va_sld hx hb hX hbl hbA hS (L := 6) (by unfold vp_in; decide) dL_law_2184 ?_
    refine W.eq (g2 := F0 m 2185 ls [.int (xs 3), .int (xs 2), .int (xs 1), .ref qm, .int (-6)]) rfl ?_
    obtain ⟨x_16, ex_16⟩ : ∃ y, ((xs 3)).toInt64 = y := ⟨_, rfl⟩
    refine lv_i2l (v := x_16) hx hb dL_law_2185 ex_16 ?_
    have k_17 := tt_i2l ex_16
    refine lv_bipush (v := 32) hx hb dL_law_2186 (by decide) ?_
    obtain ⟨x_18, ex_18⟩ : ∃ y : Int64, x_16 <<< ((32 : Int32).toInt64 &&& 63) = y := ⟨_, rfl⟩
    refine lv_lshl (v := x_18) hx hb dL_law_2188 ex_18 ?_
    refine lv_aload_n hx hb dL_law_2189 rfl (lv_at hl 3 rfl) ?_
    refine lv_iload_n hx hb dL_law_2190 rfl (lv_at hl 0 rfl) ?_
    refine lv_iconst (v := 4) hx hb dL_law_2191 (by decide) ?_
    refine lv_iadd hx hb dL_law_2192 ?_
    refine lv_topi (fun x_19 ex_19 => ?_)
    obtain rfl : x_19 = 4 := ex_19.trans (by decide)
    refine va_sld hx hb hX hbl hbA hS (L := 6) (by unfold vp_in; decide) dL_law_2193 ?_
    refine W.eq (g2 := F0 m 2194 ls [.int (xs 4), .long x_18, .int (xs 2), .int (xs 1), .ref qm, .int (-6)]) rfl ?_
    obtain ⟨x_20, ex_20⟩ : ∃ y, ((xs 4)).toInt64 = y := ⟨_, rfl⟩
    refine lv_i2l (v := x_20) hx hb dL_law_2194 ex_20 ?_
    have k_21 := tt_i2l ex_20
    refine lv_ldc2 (v := 4294967295) hx hb hown (hts _ tw_2152) dL_law_2195 ?_
    refine lv_land hx hb dL_law_2198 ?_
    refine lv_topl (fun x_22 ex_22 => ?_)
    refine lv_lor hx hb dL_law_2199 ?_
    refine lv_topl (fun x_23 ex_23 => ?_)
    refine cpVi (rest := [.int (-6)]) ⟨hx, hb, hml, hown, hts⟩ hKN (hP.sub (ws' := [(qm, .inr (12, [.int 0, .ref (v.1 0), .ref (v.1 1), .ref (v.1 2), .ref (v.1 3), .int 0, .ref (v.1 4), .int 0, .int 0, .int 0, .int 0, .int 0, .int 0, .int (-1), .ref (v.1 5), .int 0, .int 0, .int 0, .int 0, .int 0, .int 0, .ref (v.1 6), .ref (v.1 7), .ref (v.1 8), .ref (v.1 9), .int 0, .int 0, .ref (v.1 10), .int 0, .ref (v.1 11), .int 0, .ref (v.1 12), .ref (v.1 13), .ref (v.1 14), .ref (v.1 15)])), ((v.1 12), .inl (cA 1, 4, .inl (fun _ => (-1))))]) [3, 4] rfl) (k_X12_write l D cA qm (v.1 0) (v.1 1) (v.1 2) (v.1 3) (v.1 4) (v.1 5) (v.1 6) (v.1 7) (v.1 8) (v.1 9) (v.1 10) (v.1 11) (v.1 12) (v.1 13) (v.1 14) (v.1 15) (xs 1) (xs 2) x_23) (tb_V tw_2141 tw_2142 tw_2143 tw_114 tw_2144) hdX12_write ⟨rfl, rfl, Nat.le_of_ble_eq_true rfl, Nat.le_of_ble_eq_true rfl⟩ ⟨Nat.le_of_ble_eq_true rfl, Nat.le_of_ble_eq_true rfl⟩ rfl rfl rfl hl.1 rfl (Nat.le_of_ble_eq_true rfl) dL_law_2200 (fun r_24 hr_24 => ?_)
    rcases hr_24 with ⟨k_24_0, rfl⟩ | ⟨k_24_1, rfl⟩
    · skip
      refine lv_icmp_eq (tgt := 2271) hx hb dL_law_2203 (by decide) (fun c_25 => ?_) (fun c_25 => absurd (by decide) c_25)
      exact lawEnd l C0 hS (Nat.le_of_ble_eq_true rfl) (Nat.le_of_ble_eq_true rfl) (lv_sub hl [0, 1, 2, 3] rfl)
    · skip
      exfalso
      omega
  · skip
    refine lv_aload_n hx hb dL_law_2169 rfl (lv_at hl 1 rfl) ?_
    refine lv_aload_n hx hb dL_law_2170 rfl (lv_at hl 3 rfl) ?_
    refine lv_iload_n hx hb dL_law_2171 rfl (lv_at hl 0 rfl) ?_
    refine lv_iconst (v := 1) hx hb dL_law_2172 (by decide) ?_
    refine lv_iadd hx hb dL_law_2173 ?_
    refine lv_topi (fun x_26 ex_26 => ?_)
    obtain rfl : x_26 = 1 := ex_26.trans (by decide)
    refine va_sld hx hb hX hbl hbA hS (L := 6) (by unfold vp_in; decide) dL_law_2174 ?_
    refine W.eq (g2 := F0 m 2175 ls [.int (xs 1), .ref qm, .int (-2)]) rfl ?_
    refine lv_aload_n hx hb dL_law_2175 rfl (lv_at hl 3 rfl) ?_
    refine lv_iload_n hx hb dL_law_2176 rfl (lv_at hl 0 rfl) ?_
    refine lv_iconst (v := 2) hx hb dL_law_2177 (by decide) ?_
    refine lv_iadd hx hb dL_law_2178 ?_
    refine lv_topi (fun x_27 ex_27 => ?_)
    obtain rfl : x_27 = 2 := ex_27.trans (by decide)
    refine va_sld hx hb hX hbl hbA hS (L := 6) (by unfold vp_in; decide) dL_law_2179 ?_
    refine W.eq (g2 := F0 m 2180 ls [.int (xs 2), .int (xs 1), .ref qm, .int (-2)]) rfl ?_
    refine lv_aload_n hx hb dL_law_2180 rfl (lv_at hl 3 rfl) ?_
    refine lv_iload_n hx hb dL_law_2181 rfl (lv_at hl 0 rfl) ?_
    refine lv_iconst (v := 3) hx hb dL_law_2182 (by decide) ?_
    refine lv_iadd hx hb dL_law_2183 ?_
    refine lv_topi (fun x_28 ex_28 => ?_)
    obtain rfl : x_28 = 3 := ex_28.trans (by decide)
    refine va_sld hx hb hX hbl hbA hS (L := 6) (by unfold vp_in; decide) dL_law_2184 ?_
    refine W.eq (g2 := F0 m 2185 ls [.int (xs 3), .int (xs 2), .int (xs 1), .ref qm, .int (-2)]) rfl ?_
    obtain ⟨x_29, ex_29⟩ : ∃ y, ((xs 3)).toInt64 = y := ⟨_, rfl⟩
    refine lv_i2l (v := x_29) hx hb dL_law_2185 ex_29 ?_
    have k_30 := tt_i2l ex_29
    refine lv_bipush (v := 32) hx hb dL_law_2186 (by decide) ?_
    obtain ⟨x_31, ex_31⟩ : ∃ y : Int64, x_29 <<< ((32 : Int32).toInt64 &&& 63) = y := ⟨_, rfl⟩
    refine lv_lshl (v := x_31) hx hb dL_law_2188 ex_31 ?_
    refine lv_aload_n hx hb dL_law_2189 rfl (lv_at hl 3 rfl) ?_
    refine lv_iload_n hx hb dL_law_2190 rfl (lv_at hl 0 rfl) ?_
    refine lv_iconst (v := 4) hx hb dL_law_2191 (by decide) ?_
    refine lv_iadd hx hb dL_law_2192 ?_
    refine lv_topi (fun x_32 ex_32 => ?_)
    obtain rfl : x_32 = 4 := ex_32.trans (by decide)
    refine va_sld hx hb hX hbl hbA hS (L := 6) (by unfold vp_in; decide) dL_law_2193 ?_
    refine W.eq (g2 := F0 m 2194 ls [.int (xs 4), .long x_31, .int (xs 2), .int (xs 1), .ref qm, .int (-2)]) rfl ?_
    obtain ⟨x_33, ex_33⟩ : ∃ y, ((xs 4)).toInt64 = y := ⟨_, rfl⟩
    refine lv_i2l (v := x_33) hx hb dL_law_2194 ex_33 ?_
    have k_34 := tt_i2l ex_33
    refine lv_ldc2 (v := 4294967295) hx hb hown (hts _ tw_2152) dL_law_2195 ?_
    refine lv_land hx hb dL_law_2198 ?_
    refine lv_topl (fun x_35 ex_35 => ?_)
    refine lv_lor hx hb dL_law_2199 ?_
    refine lv_topl (fun x_36 ex_36 => ?_)
    refine cpVi (rest := [.int (-2)]) ⟨hx, hb, hml, hown, hts⟩ hKN (hP.sub (ws' := [(qm, .inr (12, [.int 0, .ref (v.1 0), .ref (v.1 1), .ref (v.1 2), .ref (v.1 3), .int 0, .ref (v.1 4), .int 0, .int 0, .int 0, .int 0, .int 0, .int 0, .int (-1), .ref (v.1 5), .int 0, .int 0, .int 0, .int 0, .int 0, .int 0, .ref (v.1 6), .ref (v.1 7), .ref (v.1 8), .ref (v.1 9), .int 0, .int 0, .ref (v.1 10), .int 0, .ref (v.1 11), .int 0, .ref (v.1 12), .ref (v.1 13), .ref (v.1 14), .ref (v.1 15)])), ((v.1 12), .inl (cA 1, 4, .inl (fun _ => (-1))))]) [3, 4] rfl) (k_X12_write l D cA qm (v.1 0) (v.1 1) (v.1 2) (v.1 3) (v.1 4) (v.1 5) (v.1 6) (v.1 7) (v.1 8) (v.1 9) (v.1 10) (v.1 11) (v.1 12) (v.1 13) (v.1 14) (v.1 15) (xs 1) (xs 2) x_36) (tb_V tw_2141 tw_2142 tw_2143 tw_114 tw_2144) hdX12_write ⟨rfl, rfl, Nat.le_of_ble_eq_true rfl, Nat.le_of_ble_eq_true rfl⟩ ⟨Nat.le_of_ble_eq_true rfl, Nat.le_of_ble_eq_true rfl⟩ rfl rfl rfl hl.1 rfl (Nat.le_of_ble_eq_true rfl) dL_law_2200 (fun r_37 hr_37 => ?_)
    rcases hr_37 with ⟨k_37_0, rfl⟩ | ⟨k_37_1, rfl⟩
    · skip
      exfalso
      omega
    · skip
      refine lv_icmp_eq (tgt := 2271) hx hb dL_law_2203 (by decide) (fun c_38 => ?_) (fun c_38 => absurd (by decide) c_38)
      exact lawEnd l C0 hS (Nat.le_of_ble_eq_true rfl) (Nat.le_of_ble_eq_true rfl) (lv_sub hl [0, 1, 2, 3] rfl)
set_option maxHeartbeats 4000000 in
set_option maxRecDepth 100000 in
theorem law_c72 {p : Program} {e : Env} {s : State} {m : MethodId} {below : List Frame} {meth : Method} {c : Code} (l : Launch) {b : Nat} {xs : Nat → Int32} (C0 : lw_At p s m meth c b 6 xs) (D : va_G) (cA : Nat → ClassId) (hKN : KN D cA s) {H : Heap} {locs : List Loc} {ls : Array Slot} (qx qm : Nat) (u v : SU) (hP : va_P D vwCl (wXM cA qx qm u v) H) (hD : va_D (fun q : Nat => s.heap.size ≤ q) (wXM cA qx qm u v)) (hS : va_S (fun q : Nat => s.heap.size ≤ q) s.heap H locs) (hl : lv_has ls 4 [(3, .int 0), (2, .ref qm), (1, .ref qx), (0, .ref b)]) : W p l e room_1 s m #[Value.ref b] below meth c H locs 104 9712 (lw_Z below #[Value.ref b] s) (F0 m 2208 ls []) := by
  obtain ⟨hx, hb, hr, hml, hown, hts0, hX, hbl, hlocks, hgv⟩ := id C0
  have hts : ∀ w ∈ TB, w.before _ s = true := fun w h => hts0 w (List.mem_filter.mp h).1
  have hb : c.code = cL_law := hb
  have hown : s.vm.findClass "WristTreatyLaw" = some m.cls := hown
  have hA : ∀ q : Nat, s.heap.size ≤ q → (fun q : Nat => s.heap.size ≤ q) q := fun _ h => h
  have hbA : ¬ (fun q : Nat => s.heap.size ≤ q) b := Nat.not_le.mpr hbl
  have hP := hP.sub (ws' := [(qx, .inr (11, [.ref (u.1 0), .ref (u.1 2), .ref (u.1 13), .ref (u.1 22), .ref (u.1 26), .ref (u.1 69), .ref (u.1 73), .ref (u.1 74), .ref (u.1 77), .ref (u.1 79), .ref (u.1 83)])), ((u.1 69), .inr (7, [.ref (u.1 72), .ref (u.1 70), .ref (u.1 71)])), ((u.1 72), .inl (cA 1, 4, .inl (fun _ => (-1)))), (qm, .inr (12, [.int 0, .ref (v.1 0), .ref (v.1 1), .ref (v.1 2), .ref (v.1 3), .int 0, .ref (v.1 4), .int 0, .int 0, .int 0, .int 0, .int 0, .int 0, .int (-1), .ref (v.1 5), .int 0, .int 0, .int 0, .int 0, .int 0, .int 0, .ref (v.1 6), .ref (v.1 7), .ref (v.1 8), .ref (v.1 9), .int 0, .int 0, .ref (v.1 10), .int 0, .ref (v.1 11), .int 0, .ref (v.1 12), .ref (v.1 13), .ref (v.1 14), .ref (v.1 15)])), ((v.1 12), .inl (cA 1, 4, .inl (fun _ => (-1))))]) [0, 70, 73, 87, 100] rfl
  have hD := hD.sub (ws' := [(qx, .inr (11, [.ref (u.1 0), .ref (u.1 2), .ref (u.1 13), .ref (u.1 22), .ref (u.1 26), .ref (u.1 69), .ref (u.1 73), .ref (u.1 74), .ref (u.1 77), .ref (u.1 79), .ref (u.1 83)])), ((u.1 69), .inr (7, [.ref (u.1 72), .ref (u.1 70), .ref (u.1 71)])), ((u.1 72), .inl (cA 1, 4, .inl (fun _ => (-1)))), (qm, .inr (12, [.int 0, .ref (v.1 0), .ref (v.1 1), .ref (v.1 2), .ref (v.1 3), .int 0, .ref (v.1 4), .int 0, .int 0, .int 0, .int 0, .int 0, .int 0, .int (-1), .ref (v.1 5), .int 0, .int 0, .int 0, .int 0, .int 0, .int 0, .ref (v.1 6), .ref (v.1 7), .ref (v.1 8), .ref (v.1 9), .int 0, .int 0, .ref (v.1 10), .int 0, .ref (v.1 11), .int 0, .ref (v.1 12), .ref (v.1 13), .ref (v.1 14), .ref (v.1 15)])), ((v.1 12), .inl (cA 1, 4, .inl (fun _ => (-1))))]) [0, 70, 73, 87, 100] (by decide) rfl
  refine lv_aload_n hx hb dL_law_2208 rfl (lv_at hl 2 rfl) ?_
  refine lv_aload_n hx hb dL_law_2209 rfl (lv_at hl 3 rfl) ?_
  refine lv_iload_n hx hb dL_law_2210 rfl (lv_at hl 0 rfl) ?_
  refine lv_iconst (v := 1) hx hb dL_law_2211 (by decide) ?_
  refine lv_iadd hx hb dL_law_2212 ?_
  refine lv_topi (fun x_1 ex_1 => ?_)
  obtain rfl : x_1 = 1 := ex_1.trans (by decide)
  refine va_sld hx hb hX hbl hbA hS (L := 6) (by unfold vp_in; decide) dL_law_2213 ?_
  refine W.eq (g2 := F0 m 2214 ls [.int (xs 1), .ref qx]) rfl ?_
  refine lv_aload_n hx hb dL_law_2214 rfl (lv_at hl 3 rfl) ?_
  refine lv_iload_n hx hb dL_law_2215 rfl (lv_at hl 0 rfl) ?_
  refine lv_iconst (v := 2) hx hb dL_law_2216 (by decide) ?_
  refine lv_iadd hx hb dL_law_2217 ?_
  refine lv_topi (fun x_2 ex_2 => ?_)
  obtain rfl : x_2 = 2 := ex_2.trans (by decide)
  refine va_sld hx hb hX hbl hbA hS (L := 6) (by unfold vp_in; decide) dL_law_2218 ?_
  refine W.eq (g2 := F0 m 2219 ls [.int (xs 2), .int (xs 1), .ref qx]) rfl ?_
  refine lv_aload_n hx hb dL_law_2219 rfl (lv_at hl 3 rfl) ?_
  refine lv_iload_n hx hb dL_law_2220 rfl (lv_at hl 0 rfl) ?_
  refine lv_iconst (v := 3) hx hb dL_law_2221 (by decide) ?_
  refine lv_iadd hx hb dL_law_2222 ?_
  refine lv_topi (fun x_3 ex_3 => ?_)
  obtain rfl : x_3 = 3 := ex_3.trans (by decide)
  refine va_sld hx hb hX hbl hbA hS (L := 6) (by unfold vp_in; decide) dL_law_2223 ?_
  refine W.eq (g2 := F0 m 2224 ls [.int (xs 3), .int (xs 2), .int (xs 1), .ref qx]) rfl ?_
  refine lv_aload_n hx hb dL_law_2224 rfl (lv_at hl 3 rfl) ?_
  refine lv_iload_n hx hb dL_law_2225 rfl (lv_at hl 0 rfl) ?_
  refine lv_iconst (v := 4) hx hb dL_law_2226 (by decide) ?_
  refine lv_iadd hx hb dL_law_2227 ?_
  refine lv_topi (fun x_4 ex_4 => ?_)
  obtain rfl : x_4 = 4 := ex_4.trans (by decide)
  refine va_sld hx hb hX hbl hbA hS (L := 6) (by unfold vp_in; decide) dL_law_2228 ?_
  refine W.eq (g2 := F0 m 2229 ls [.int (xs 4), .int (xs 3), .int (xs 2), .int (xs 1), .ref qx]) rfl ?_
  refine lv_aload_n hx hb dL_law_2229 rfl (lv_at hl 3 rfl) ?_
  refine lv_iload_n hx hb dL_law_2230 rfl (lv_at hl 0 rfl) ?_
  refine lv_iconst (v := 5) hx hb dL_law_2231 (by decide) ?_
  refine lv_iadd hx hb dL_law_2232 ?_
  refine lv_topi (fun x_5 ex_5 => ?_)
  obtain rfl : x_5 = 5 := ex_5.trans (by decide)
  refine va_sld hx hb hX hbl hbA hS (L := 6) (by unfold vp_in; decide) dL_law_2233 ?_
  refine W.eq (g2 := F0 m 2234 ls [.int (xs 5), .int (xs 4), .int (xs 3), .int (xs 2), .int (xs 1), .ref qx]) rfl ?_
  refine cpVi (rest := []) ⟨hx, hb, hml, hown, hts⟩ hKN (hP.sub (ws' := [(qx, .inr (11, [.ref (u.1 0), .ref (u.1 2), .ref (u.1 13), .ref (u.1 22), .ref (u.1 26), .ref (u.1 69), .ref (u.1 73), .ref (u.1 74), .ref (u.1 77), .ref (u.1 79), .ref (u.1 83)])), ((u.1 69), .inr (7, [.ref (u.1 72), .ref (u.1 70), .ref (u.1 71)])), ((u.1 72), .inl (cA 1, 4, .inl (fun _ => (-1))))]) [0, 1, 2] rfl) (k_X11_paste l D cA qx (u.1 0) (u.1 2) (u.1 13) (u.1 22) (u.1 26) (u.1 69) (u.1 73) (u.1 74) (u.1 77) (u.1 79) (u.1 83) (u.1 72) (u.1 70) (u.1 71) (xs 1) (xs 2) (xs 3) (xs 4) (xs 5)) (tb_V tw_1401 tw_1402 tw_1403 tw_101 tw_1404) hdX11_paste ⟨rfl, rfl, Nat.le_of_ble_eq_true rfl, Nat.le_of_ble_eq_true rfl⟩ ⟨Nat.le_of_ble_eq_true rfl, Nat.le_of_ble_eq_true rfl⟩ rfl rfl rfl hl.1 rfl (Nat.le_of_ble_eq_true rfl) dL_law_2234 (fun r_6 hr_6 => ?_)
  rcases hr_6 with ⟨k_6_0, rfl⟩ | ⟨k_6_1, rfl⟩
  · skip
    refine lv_aload_n hx hb dL_law_2237 rfl (lv_at hl 1 rfl) ?_
    refine lv_aload_n hx hb dL_law_2238 rfl (lv_at hl 3 rfl) ?_
    refine lv_iload_n hx hb dL_law_2239 rfl (lv_at hl 0 rfl) ?_
    refine lv_iconst (v := 1) hx hb dL_law_2240 (by decide) ?_
    refine lv_iadd hx hb dL_law_2241 ?_
    refine lv_topi (fun x_7 ex_7 => ?_)
    obtain rfl : x_7 = 1 := ex_7.trans (by decide)
    refine va_sld hx hb hX hbl hbA hS (L := 6) (by unfold vp_in; decide) dL_law_2242 ?_
    refine W.eq (g2 := F0 m 2243 ls [.int (xs 1), .ref qm, .int (-6)]) rfl ?_
    refine lv_aload_n hx hb dL_law_2243 rfl (lv_at hl 3 rfl) ?_
    refine lv_iload_n hx hb dL_law_2244 rfl (lv_at hl 0 rfl) ?_
    refine lv_iconst (v := 2) hx hb dL_law_2245 (by decide) ?_
    refine lv_iadd hx hb dL_law_2246 ?_
    refine lv_topi (fun x_8 ex_8 => ?_)
    obtain rfl : x_8 = 2 := ex_8.trans (by decide)
    refine va_sld hx hb hX hbl hbA hS (L := 6) (by unfold vp_in; decide) dL_law_2247 ?_
    refine W.eq (g2 := F0 m 2248 ls [.int (xs 2), .int (xs 1), .ref qm, .int (-6)]) rfl ?_
    refine lv_aload_n hx hb dL_law_2248 rfl (lv_at hl 3 rfl) ?_
    refine lv_iload_n hx hb dL_law_2249 rfl (lv_at hl 0 rfl) ?_
    refine lv_iconst (v := 3) hx hb dL_law_2250 (by decide) ?_
    refine lv_iadd hx hb dL_law_2251 ?_
    refine lv_topi (fun x_9 ex_9 => ?_)
    obtain rfl : x_9 = 3 := ex_9.trans (by decide)
    refine va_sld hx hb hX hbl hbA hS (L := 6) (by unfold vp_in; decide) dL_law_2252 ?_
    refine W.eq (g2 := F0 m 2253 ls [.int (xs 3), .int (xs 2), .int (xs 1), .ref qm, .int (-6)]) rfl ?_
    refine lv_aload_n hx hb dL_law_2253 rfl (lv_at hl 3 rfl) ?_
    refine lv_iload_n hx hb dL_law_2254 rfl (lv_at hl 0 rfl) ?_
    refine lv_iconst (v := 4) hx hb dL_law_2255 (by decide) ?_
    refine lv_iadd hx hb dL_law_2256 ?_
    refine lv_topi (fun x_10 ex_10 => ?_)
    obtain rfl : x_10 = 4 := ex_10.trans (by decide)
    refine va_sld hx hb hX hbl hbA hS (L := 6) (by unfold vp_in; decide) dL_law_2257 ?_
    refine W.eq (g2 := F0 m 2258 ls [.int (xs 4), .int (xs 3), .int (xs 2), .int (xs 1), .ref qm, .int (-6)]) rfl ?_
    refine lv_aload_n hx hb dL_law_2258 rfl (lv_at hl 3 rfl) ?_
    refine lv_iload_n hx hb dL_law_2259 rfl (lv_at hl 0 rfl) ?_
    refine lv_iconst (v := 5) hx hb dL_law_2260 (by decide) ?_
    refine lv_iadd hx hb dL_law_2261 ?_
    refine lv_topi (fun x_11 ex_11 => ?_)
    obtain rfl : x_11 = 5 := ex_11.trans (by decide)
    refine va_sld hx hb hX hbl hbA hS (L := 6) (by unfold vp_in; decide) dL_law_2262 ?_
    refine W.eq (g2 := F0 m 2263 ls [.int (xs 5), .int (xs 4), .int (xs 3), .int (xs 2), .int (xs 1), .ref qm, .int (-6)]) rfl ?_
    refine cpVi (rest := [.int (-6)]) ⟨hx, hb, hml, hown, hts⟩ hKN (hP.sub (ws' := [(qm, .inr (12, [.int 0, .ref (v.1 0), .ref (v.1 1), .ref (v.1 2), .ref (v.1 3), .int 0, .ref (v.1 4), .int 0, .int 0, .int 0, .int 0, .int 0, .int 0, .int (-1), .ref (v.1 5), .int 0, .int 0, .int 0, .int 0, .int 0, .int 0, .ref (v.1 6), .ref (v.1 7), .ref (v.1 8), .ref (v.1 9), .int 0, .int 0, .ref (v.1 10), .int 0, .ref (v.1 11), .int 0, .ref (v.1 12), .ref (v.1 13), .ref (v.1 14), .ref (v.1 15)])), ((v.1 12), .inl (cA 1, 4, .inl (fun _ => (-1))))]) [3, 4] rfl) (k_X12_paste l D cA qm (v.1 0) (v.1 1) (v.1 2) (v.1 3) (v.1 4) (v.1 5) (v.1 6) (v.1 7) (v.1 8) (v.1 9) (v.1 10) (v.1 11) (v.1 12) (v.1 13) (v.1 14) (v.1 15) (xs 1) (xs 2) (xs 3) (xs 4) (xs 5)) (tb_V tw_2148 tw_2149 tw_2150 tw_114 tw_2151) hdX12_paste ⟨rfl, rfl, Nat.le_of_ble_eq_true rfl, Nat.le_of_ble_eq_true rfl⟩ ⟨Nat.le_of_ble_eq_true rfl, Nat.le_of_ble_eq_true rfl⟩ rfl rfl rfl hl.1 rfl (Nat.le_of_ble_eq_true rfl) dL_law_2263 (fun r_12 hr_12 => ?_)
    rcases hr_12 with ⟨k_12_0, rfl⟩ | ⟨k_12_1, rfl⟩
    · skip
      refine lv_icmp_eq (tgt := 2271) hx hb dL_law_2266 (by decide) (fun c_13 => ?_) (fun c_13 => absurd (by decide) c_13)
      exact lawEnd l C0 hS (Nat.le_of_ble_eq_true rfl) (Nat.le_of_ble_eq_true rfl) (lv_sub hl [0, 1, 2, 3] rfl)
    · skip
      exfalso
      omega
  · skip
    refine lv_aload_n hx hb dL_law_2237 rfl (lv_at hl 1 rfl) ?_
    refine lv_aload_n hx hb dL_law_2238 rfl (lv_at hl 3 rfl) ?_
    refine lv_iload_n hx hb dL_law_2239 rfl (lv_at hl 0 rfl) ?_
    refine lv_iconst (v := 1) hx hb dL_law_2240 (by decide) ?_
    refine lv_iadd hx hb dL_law_2241 ?_
    refine lv_topi (fun x_14 ex_14 => ?_)
    obtain rfl : x_14 = 1 := ex_14.trans (by decide)
    refine va_sld hx hb hX hbl hbA hS (L := 6) (by unfold vp_in; decide) dL_law_2242 ?_
    refine W.eq (g2 := F0 m 2243 ls [.int (xs 1), .ref qm, .int (-2)]) rfl ?_
    refine lv_aload_n hx hb dL_law_2243 rfl (lv_at hl 3 rfl) ?_
    refine lv_iload_n hx hb dL_law_2244 rfl (lv_at hl 0 rfl) ?_
    refine lv_iconst (v := 2) hx hb dL_law_2245 (by decide) ?_
    refine lv_iadd hx hb dL_law_2246 ?_
    refine lv_topi (fun x_15 ex_15 => ?_)
    obtain rfl : x_15 = 2 := ex_15.trans (by decide)
    refine va_sld hx hb hX hbl hbA hS (L := 6) (by unfold vp_in; decide) dL_law_2247 ?_
    refine W.eq (g2 := F0 m 2248 ls [.int (xs 2), .int (xs 1), .ref qm, .int (-2)]) rfl ?_
    refine lv_aload_n hx hb dL_law_2248 rfl (lv_at hl 3 rfl) ?_
    refine lv_iload_n hx hb dL_law_2249 rfl (lv_at hl 0 rfl) ?_
    refine lv_iconst (v := 3) hx hb dL_law_2250 (by decide) ?_
    refine lv_iadd hx hb dL_law_2251 ?_
    refine lv_topi (fun x_16 ex_16 => ?_)
    obtain rfl : x_16 = 3 := ex_16.trans (by decide)
    refine va_sld hx hb hX hbl hbA hS (L := 6) (by unfold vp_in; decide) dL_law_2252 ?_
    refine W.eq (g2 := F0 m 2253 ls [.int (xs 3), .int (xs 2), .int (xs 1), .ref qm, .int (-2)]) rfl ?_
    refine lv_aload_n hx hb dL_law_2253 rfl (lv_at hl 3 rfl) ?_
    refine lv_iload_n hx hb dL_law_2254 rfl (lv_at hl 0 rfl) ?_
    refine lv_iconst (v := 4) hx hb dL_law_2255 (by decide) ?_
    refine lv_iadd hx hb dL_law_2256 ?_
    refine lv_topi (fun x_17 ex_17 => ?_)
    obtain rfl : x_17 = 4 := ex_17.trans (by decide)
    refine va_sld hx hb hX hbl hbA hS (L := 6) (by unfold vp_in; decide) dL_law_2257 ?_
    refine W.eq (g2 := F0 m 2258 ls [.int (xs 4), .int (xs 3), .int (xs 2), .int (xs 1), .ref qm, .int (-2)]) rfl ?_
    refine lv_aload_n hx hb dL_law_2258 rfl (lv_at hl 3 rfl) ?_
    refine lv_iload_n hx hb dL_law_2259 rfl (lv_at hl 0 rfl) ?_
    refine lv_iconst (v := 5) hx hb dL_law_2260 (by decide) ?_
    refine lv_iadd hx hb dL_law_2261 ?_
    refine lv_topi (fun x_18 ex_18 => ?_)
    obtain rfl : x_18 = 5 := ex_18.trans (by decide)
    refine va_sld hx hb hX hbl hbA hS (L := 6) (by unfold vp_in; decide) dL_law_2262 ?_
    refine W.eq (g2 := F0 m 2263 ls [.int (xs 5), .int (xs 4), .int (xs 3), .int (xs 2), .int (xs 1), .ref qm, .int (-2)]) rfl ?_
    refine cpVi (rest := [.int (-2)]) ⟨hx, hb, hml, hown, hts⟩ hKN (hP.sub (ws' := [(qm, .inr (12, [.int 0, .ref (v.1 0), .ref (v.1 1), .ref (v.1 2), .ref (v.1 3), .int 0, .ref (v.1 4), .int 0, .int 0, .int 0, .int 0, .int 0, .int 0, .int (-1), .ref (v.1 5), .int 0, .int 0, .int 0, .int 0, .int 0, .int 0, .ref (v.1 6), .ref (v.1 7), .ref (v.1 8), .ref (v.1 9), .int 0, .int 0, .ref (v.1 10), .int 0, .ref (v.1 11), .int 0, .ref (v.1 12), .ref (v.1 13), .ref (v.1 14), .ref (v.1 15)])), ((v.1 12), .inl (cA 1, 4, .inl (fun _ => (-1))))]) [3, 4] rfl) (k_X12_paste l D cA qm (v.1 0) (v.1 1) (v.1 2) (v.1 3) (v.1 4) (v.1 5) (v.1 6) (v.1 7) (v.1 8) (v.1 9) (v.1 10) (v.1 11) (v.1 12) (v.1 13) (v.1 14) (v.1 15) (xs 1) (xs 2) (xs 3) (xs 4) (xs 5)) (tb_V tw_2148 tw_2149 tw_2150 tw_114 tw_2151) hdX12_paste ⟨rfl, rfl, Nat.le_of_ble_eq_true rfl, Nat.le_of_ble_eq_true rfl⟩ ⟨Nat.le_of_ble_eq_true rfl, Nat.le_of_ble_eq_true rfl⟩ rfl rfl rfl hl.1 rfl (Nat.le_of_ble_eq_true rfl) dL_law_2263 (fun r_19 hr_19 => ?_)
    rcases hr_19 with ⟨k_19_0, rfl⟩ | ⟨k_19_1, rfl⟩
    · skip
      exfalso
      omega
    · skip
      refine lv_icmp_eq (tgt := 2271) hx hb dL_law_2266 (by decide) (fun c_20 => ?_) (fun c_20 => absurd (by decide) c_20)
      exact lawEnd l C0 hS (Nat.le_of_ble_eq_true rfl) (Nat.le_of_ble_eq_true rfl) (lv_sub hl [0, 1, 2, 3] rfl)

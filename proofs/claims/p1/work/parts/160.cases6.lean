set_option maxHeartbeats 4000000 in
set_option maxRecDepth 100000 in
theorem law_c60 {p : Program} {e : Env} {s : State} {m : MethodId} {below : List Frame} {meth : Method} {c : Code} (l : Launch) {b : Nat} {xs : Nat → Int32} (C0 : lw_At p s m meth c b 6 xs) (D : va_G) (cA : Nat → ClassId) (hKN : KN D cA s) {H : Heap} {locs : List Loc} {ls : Array Slot} (qx qm : Nat) (u v : SU) (hP : va_P D vwCl (wXM cA qx qm u v) H) (hD : va_D (fun q : Nat => s.heap.size ≤ q) (wXM cA qx qm u v)) (hS : va_S (fun q : Nat => s.heap.size ≤ q) s.heap H locs) (hl : lv_has ls 4 [(3, .int 0), (2, .ref qm), (1, .ref qx), (0, .ref b)]) : W p l e room_1 s m #[Value.ref b] below meth c H locs 104 9712 (lw_Z below #[Value.ref b] s) (F0 m 1822 ls []) := by
  obtain ⟨hx, hb, hr, hml, hown, hts0, hX, hbl, hlocks, hgv⟩ := id C0
  have hts : ∀ w ∈ TB, w.before _ s = true := fun w h => hts0 w (List.mem_filter.mp h).1
  have hb : c.code = cL_law := hb
  have hown : s.vm.findClass "WristTreatyLaw" = some m.cls := hown
  have hA : ∀ q : Nat, s.heap.size ≤ q → (fun q : Nat => s.heap.size ≤ q) q := fun _ h => h
  have hbA : ¬ (fun q : Nat => s.heap.size ≤ q) b := Nat.not_le.mpr hbl
  have hP := hP.sub (ws' := [(qx, .inr (11, [.ref (u.1 0), .ref (u.1 2), .ref (u.1 13), .ref (u.1 22), .ref (u.1 26), .ref (u.1 69), .ref (u.1 73), .ref (u.1 74), .ref (u.1 77), .ref (u.1 79), .ref (u.1 83)])), ((u.1 13), .inr (3, [.int 0, .int 0, .int 0, .int 0, .int 0, .int 0, .int 0, .int 0, .ref (u.1 14), .ref (u.1 15), .ref (u.1 16), .ref (u.1 17), .ref (u.1 18), .ref (u.1 19), .ref (u.1 20), .ref (u.1 21)])), (qm, .inr (12, [.int 0, .ref (v.1 0), .ref (v.1 1), .ref (v.1 2), .ref (v.1 3), .int 0, .ref (v.1 4), .int 0, .int 0, .int 0, .int 0, .int 0, .int 0, .int (-1), .ref (v.1 5), .int 0, .int 0, .int 0, .int 0, .int 0, .int 0, .ref (v.1 6), .ref (v.1 7), .ref (v.1 8), .ref (v.1 9), .int 0, .int 0, .ref (v.1 10), .int 0, .ref (v.1 11), .int 0, .ref (v.1 12), .ref (v.1 13), .ref (v.1 14), .ref (v.1 15)])), ((v.1 0), .inl (cA 1, 122, .inl (fun _ => 0)))]) [0, 14, 87, 88] rfl
  have hD := hD.sub (ws' := [(qx, .inr (11, [.ref (u.1 0), .ref (u.1 2), .ref (u.1 13), .ref (u.1 22), .ref (u.1 26), .ref (u.1 69), .ref (u.1 73), .ref (u.1 74), .ref (u.1 77), .ref (u.1 79), .ref (u.1 83)])), ((u.1 13), .inr (3, [.int 0, .int 0, .int 0, .int 0, .int 0, .int 0, .int 0, .int 0, .ref (u.1 14), .ref (u.1 15), .ref (u.1 16), .ref (u.1 17), .ref (u.1 18), .ref (u.1 19), .ref (u.1 20), .ref (u.1 21)])), (qm, .inr (12, [.int 0, .ref (v.1 0), .ref (v.1 1), .ref (v.1 2), .ref (v.1 3), .int 0, .ref (v.1 4), .int 0, .int 0, .int 0, .int 0, .int 0, .int 0, .int (-1), .ref (v.1 5), .int 0, .int 0, .int 0, .int 0, .int 0, .int 0, .ref (v.1 6), .ref (v.1 7), .ref (v.1 8), .ref (v.1 9), .int 0, .int 0, .ref (v.1 10), .int 0, .ref (v.1 11), .int 0, .ref (v.1 12), .ref (v.1 13), .ref (v.1 14), .ref (v.1 15)])), ((v.1 0), .inl (cA 1, 122, .inl (fun _ => 0)))]) [0, 14, 87, 88] (by decide) rfl
  refine lv_aload_n hx hb dL_law_1822 rfl (lv_at hl 2 rfl) ?_
  refine cpVi (rest := []) ⟨hx, hb, hml, hown, hts⟩ hKN (hP.sub (ws' := [(qx, .inr (11, [.ref (u.1 0), .ref (u.1 2), .ref (u.1 13), .ref (u.1 22), .ref (u.1 26), .ref (u.1 69), .ref (u.1 73), .ref (u.1 74), .ref (u.1 77), .ref (u.1 79), .ref (u.1 83)])), ((u.1 13), .inr (3, [.int 0, .int 0, .int 0, .int 0, .int 0, .int 0, .int 0, .int 0, .ref (u.1 14), .ref (u.1 15), .ref (u.1 16), .ref (u.1 17), .ref (u.1 18), .ref (u.1 19), .ref (u.1 20), .ref (u.1 21)]))]) [0, 1] rfl) (k_X11_drop l D cA qx (u.1 0) (u.1 2) (u.1 13) (u.1 22) (u.1 26) (u.1 69) (u.1 73) (u.1 74) (u.1 77) (u.1 79) (u.1 83) (u.1 14) (u.1 15) (u.1 16) (u.1 17) (u.1 18) (u.1 19) (u.1 20) (u.1 21)) (tb_V tw_1311 tw_1312 tw_1313 tw_101 tw_1314) hdX11_drop ⟨rfl, rfl, Nat.le_of_ble_eq_true rfl, Nat.le_of_ble_eq_true rfl⟩ ⟨Nat.le_of_ble_eq_true rfl, Nat.le_of_ble_eq_true rfl⟩ rfl rfl rfl hl.1 rfl (Nat.le_of_ble_eq_true rfl) dL_law_1823 (fun r_1 hr_1 => ?_)
  obtain rfl : r_1 = (-2) := hr_1
  refine lv_aload_n hx hb dL_law_1826 rfl (lv_at hl 1 rfl) ?_
  refine cpVi (rest := [.int (-2)]) ⟨hx, hb, hml, hown, hts⟩ hKN (hP.sub (ws' := [(qm, .inr (12, [.int 0, .ref (v.1 0), .ref (v.1 1), .ref (v.1 2), .ref (v.1 3), .int 0, .ref (v.1 4), .int 0, .int 0, .int 0, .int 0, .int 0, .int 0, .int (-1), .ref (v.1 5), .int 0, .int 0, .int 0, .int 0, .int 0, .int 0, .ref (v.1 6), .ref (v.1 7), .ref (v.1 8), .ref (v.1 9), .int 0, .int 0, .ref (v.1 10), .int 0, .ref (v.1 11), .int 0, .ref (v.1 12), .ref (v.1 13), .ref (v.1 14), .ref (v.1 15)])), ((v.1 0), .inl (cA 1, 122, .inl (fun _ => 0)))]) [2, 3] rfl) (k_X12_drop l D cA qm (v.1 0) (v.1 1) (v.1 2) (v.1 3) (v.1 4) (v.1 5) (v.1 6) (v.1 7) (v.1 8) (v.1 9) (v.1 10) (v.1 11) (v.1 12) (v.1 13) (v.1 14) (v.1 15)) (tb_V tw_2090 tw_2091 tw_2092 tw_114 tw_2093) hdX12_drop ⟨rfl, rfl, Nat.le_of_ble_eq_true rfl, Nat.le_of_ble_eq_true rfl⟩ ⟨Nat.le_of_ble_eq_true rfl, Nat.le_of_ble_eq_true rfl⟩ rfl rfl rfl hl.1 rfl (Nat.le_of_ble_eq_true rfl) dL_law_1827 (fun r_2 hr_2 => ?_)
  obtain rfl : r_2 = (-2) := hr_2
  refine lv_icmp_eq (tgt := 2271) hx hb dL_law_1830 (by decide) (fun c_3 => ?_) (fun c_3 => absurd (by decide) c_3)
  exact lawEnd l C0 hS (Nat.le_of_ble_eq_true rfl) (Nat.le_of_ble_eq_true rfl) (lv_sub hl [0, 1, 2, 3] rfl)
set_option maxHeartbeats 4000000 in
set_option maxRecDepth 100000 in
theorem law_c61 {p : Program} {e : Env} {s : State} {m : MethodId} {below : List Frame} {meth : Method} {c : Code} (l : Launch) {b : Nat} {xs : Nat → Int32} (C0 : lw_At p s m meth c b 6 xs) (D : va_G) (cA : Nat → ClassId) (hKN : KN D cA s) {H : Heap} {locs : List Loc} {ls : Array Slot} (qx qm : Nat) (u v : SU) (hP : va_P D vwCl (wXM cA qx qm u v) H) (hD : va_D (fun q : Nat => s.heap.size ≤ q) (wXM cA qx qm u v)) (hS : va_S (fun q : Nat => s.heap.size ≤ q) s.heap H locs) (hl : lv_has ls 4 [(3, .int 0), (2, .ref qm), (1, .ref qx), (0, .ref b)]) : W p l e room_1 s m #[Value.ref b] below meth c H locs 104 9712 (lw_Z below #[Value.ref b] s) (F0 m 1835 ls []) := by
  obtain ⟨hx, hb, hr, hml, hown, hts0, hX, hbl, hlocks, hgv⟩ := id C0
  have hts : ∀ w ∈ TB, w.before _ s = true := fun w h => hts0 w (List.mem_filter.mp h).1
  have hb : c.code = cL_law := hb
  have hown : s.vm.findClass "WristTreatyLaw" = some m.cls := hown
  have hA : ∀ q : Nat, s.heap.size ≤ q → (fun q : Nat => s.heap.size ≤ q) q := fun _ h => h
  have hbA : ¬ (fun q : Nat => s.heap.size ≤ q) b := Nat.not_le.mpr hbl
  have hP := hP.sub (ws' := [(qx, .inr (11, [.ref (u.1 0), .ref (u.1 2), .ref (u.1 13), .ref (u.1 22), .ref (u.1 26), .ref (u.1 69), .ref (u.1 73), .ref (u.1 74), .ref (u.1 77), .ref (u.1 79), .ref (u.1 83)])), ((u.1 13), .inr (3, [.int 0, .int 0, .int 0, .int 0, .int 0, .int 0, .int 0, .int 0, .ref (u.1 14), .ref (u.1 15), .ref (u.1 16), .ref (u.1 17), .ref (u.1 18), .ref (u.1 19), .ref (u.1 20), .ref (u.1 21)])), (qm, .inr (12, [.int 0, .ref (v.1 0), .ref (v.1 1), .ref (v.1 2), .ref (v.1 3), .int 0, .ref (v.1 4), .int 0, .int 0, .int 0, .int 0, .int 0, .int 0, .int (-1), .ref (v.1 5), .int 0, .int 0, .int 0, .int 0, .int 0, .int 0, .ref (v.1 6), .ref (v.1 7), .ref (v.1 8), .ref (v.1 9), .int 0, .int 0, .ref (v.1 10), .int 0, .ref (v.1 11), .int 0, .ref (v.1 12), .ref (v.1 13), .ref (v.1 14), .ref (v.1 15)])), ((v.1 0), .inl (cA 1, 122, .inl (fun _ => 0)))]) [0, 14, 87, 88] rfl
  have hD := hD.sub (ws' := [(qx, .inr (11, [.ref (u.1 0), .ref (u.1 2), .ref (u.1 13), .ref (u.1 22), .ref (u.1 26), .ref (u.1 69), .ref (u.1 73), .ref (u.1 74), .ref (u.1 77), .ref (u.1 79), .ref (u.1 83)])), ((u.1 13), .inr (3, [.int 0, .int 0, .int 0, .int 0, .int 0, .int 0, .int 0, .int 0, .ref (u.1 14), .ref (u.1 15), .ref (u.1 16), .ref (u.1 17), .ref (u.1 18), .ref (u.1 19), .ref (u.1 20), .ref (u.1 21)])), (qm, .inr (12, [.int 0, .ref (v.1 0), .ref (v.1 1), .ref (v.1 2), .ref (v.1 3), .int 0, .ref (v.1 4), .int 0, .int 0, .int 0, .int 0, .int 0, .int 0, .int (-1), .ref (v.1 5), .int 0, .int 0, .int 0, .int 0, .int 0, .int 0, .ref (v.1 6), .ref (v.1 7), .ref (v.1 8), .ref (v.1 9), .int 0, .int 0, .ref (v.1 10), .int 0, .ref (v.1 11), .int 0, .ref (v.1 12), .ref (v.1 13), .ref (v.1 14), .ref (v.1 15)])), ((v.1 0), .inl (cA 1, 122, .inl (fun _ => 0)))]) [0, 14, 87, 88] (by decide) rfl
  refine lv_aload_n hx hb dL_law_1835 rfl (lv_at hl 2 rfl) ?_
  refine lv_aload_n hx hb dL_law_1836 rfl (lv_at hl 3 rfl) ?_
  refine lv_iload_n hx hb dL_law_1837 rfl (lv_at hl 0 rfl) ?_
  refine lv_iconst (v := 1) hx hb dL_law_1838 (by decide) ?_
  refine lv_iadd hx hb dL_law_1839 ?_
  refine lv_topi (fun x_1 ex_1 => ?_)
  obtain rfl : x_1 = 1 := ex_1.trans (by decide)
  refine va_sld hx hb hX hbl hbA hS (L := 6) (by unfold vp_in; decide) dL_law_1840 ?_
  refine W.eq (g2 := F0 m 1841 ls [.int (xs 1), .ref qx]) rfl ?_
  refine cpVi (rest := []) ⟨hx, hb, hml, hown, hts⟩ hKN (hP.sub (ws' := [(qx, .inr (11, [.ref (u.1 0), .ref (u.1 2), .ref (u.1 13), .ref (u.1 22), .ref (u.1 26), .ref (u.1 69), .ref (u.1 73), .ref (u.1 74), .ref (u.1 77), .ref (u.1 79), .ref (u.1 83)])), ((u.1 13), .inr (3, [.int 0, .int 0, .int 0, .int 0, .int 0, .int 0, .int 0, .int 0, .ref (u.1 14), .ref (u.1 15), .ref (u.1 16), .ref (u.1 17), .ref (u.1 18), .ref (u.1 19), .ref (u.1 20), .ref (u.1 21)]))]) [0, 1] rfl) (k_X11_now l D cA qx (u.1 0) (u.1 2) (u.1 13) (u.1 22) (u.1 26) (u.1 69) (u.1 73) (u.1 74) (u.1 77) (u.1 79) (u.1 83) (u.1 14) (u.1 15) (u.1 16) (u.1 17) (u.1 18) (u.1 19) (u.1 20) (u.1 21) (xs 1)) (tb_V tw_1319 tw_1320 tw_1321 tw_101 tw_1322) hdX11_now ⟨rfl, rfl, Nat.le_of_ble_eq_true rfl, Nat.le_of_ble_eq_true rfl⟩ ⟨Nat.le_of_ble_eq_true rfl, Nat.le_of_ble_eq_true rfl⟩ rfl rfl rfl hl.1 rfl (Nat.le_of_ble_eq_true rfl) dL_law_1841 (fun r_2 hr_2 => ?_)
  obtain rfl : r_2 = (-1000) := hr_2
  refine lv_aload_n hx hb dL_law_1844 rfl (lv_at hl 1 rfl) ?_
  refine lv_aload_n hx hb dL_law_1845 rfl (lv_at hl 3 rfl) ?_
  refine lv_iload_n hx hb dL_law_1846 rfl (lv_at hl 0 rfl) ?_
  refine lv_iconst (v := 1) hx hb dL_law_1847 (by decide) ?_
  refine lv_iadd hx hb dL_law_1848 ?_
  refine lv_topi (fun x_3 ex_3 => ?_)
  obtain rfl : x_3 = 1 := ex_3.trans (by decide)
  refine va_sld hx hb hX hbl hbA hS (L := 6) (by unfold vp_in; decide) dL_law_1849 ?_
  refine W.eq (g2 := F0 m 1850 ls [.int (xs 1), .ref qm, .int (-1000)]) rfl ?_
  refine cpVi (rest := [.int (-1000)]) ⟨hx, hb, hml, hown, hts⟩ hKN (hP.sub (ws' := [(qm, .inr (12, [.int 0, .ref (v.1 0), .ref (v.1 1), .ref (v.1 2), .ref (v.1 3), .int 0, .ref (v.1 4), .int 0, .int 0, .int 0, .int 0, .int 0, .int 0, .int (-1), .ref (v.1 5), .int 0, .int 0, .int 0, .int 0, .int 0, .int 0, .ref (v.1 6), .ref (v.1 7), .ref (v.1 8), .ref (v.1 9), .int 0, .int 0, .ref (v.1 10), .int 0, .ref (v.1 11), .int 0, .ref (v.1 12), .ref (v.1 13), .ref (v.1 14), .ref (v.1 15)])), ((v.1 0), .inl (cA 1, 122, .inl (fun _ => 0)))]) [2, 3] rfl) (k_X12_now l D cA qm (v.1 0) (v.1 1) (v.1 2) (v.1 3) (v.1 4) (v.1 5) (v.1 6) (v.1 7) (v.1 8) (v.1 9) (v.1 10) (v.1 11) (v.1 12) (v.1 13) (v.1 14) (v.1 15) (xs 1)) (tb_V tw_2094 tw_2095 tw_2096 tw_114 tw_2097) hdX12_now ⟨rfl, rfl, Nat.le_of_ble_eq_true rfl, Nat.le_of_ble_eq_true rfl⟩ ⟨Nat.le_of_ble_eq_true rfl, Nat.le_of_ble_eq_true rfl⟩ rfl rfl rfl hl.1 rfl (Nat.le_of_ble_eq_true rfl) dL_law_1850 (fun r_4 hr_4 => ?_)
  obtain rfl : r_4 = (-1000) := hr_4
  refine lv_icmp_eq (tgt := 2271) hx hb dL_law_1853 (by decide) (fun c_5 => ?_) (fun c_5 => absurd (by decide) c_5)
  exact lawEnd l C0 hS (Nat.le_of_ble_eq_true rfl) (Nat.le_of_ble_eq_true rfl) (lv_sub hl [0, 1, 2, 3] rfl)
set_option maxHeartbeats 4000000 in
set_option maxRecDepth 100000 in
theorem law_c62 {p : Program} {e : Env} {s : State} {m : MethodId} {below : List Frame} {meth : Method} {c : Code} (l : Launch) {b : Nat} {xs : Nat → Int32} (C0 : lw_At p s m meth c b 6 xs) (D : va_G) (cA : Nat → ClassId) (hKN : KN D cA s) {H : Heap} {locs : List Loc} {ls : Array Slot} (qx qm : Nat) (u v : SU) (hP : va_P D vwCl (wXM cA qx qm u v) H) (hD : va_D (fun q : Nat => s.heap.size ≤ q) (wXM cA qx qm u v)) (hS : va_S (fun q : Nat => s.heap.size ≤ q) s.heap H locs) (hl : lv_has ls 4 [(3, .int 0), (2, .ref qm), (1, .ref qx), (0, .ref b)]) : W p l e room_1 s m #[Value.ref b] below meth c H locs 104 9712 (lw_Z below #[Value.ref b] s) (F0 m 1858 ls []) := by
  obtain ⟨hx, hb, hr, hml, hown, hts0, hX, hbl, hlocks, hgv⟩ := id C0
  have hts : ∀ w ∈ TB, w.before _ s = true := fun w h => hts0 w (List.mem_filter.mp h).1
  have hb : c.code = cL_law := hb
  have hown : s.vm.findClass "WristTreatyLaw" = some m.cls := hown
  have hA : ∀ q : Nat, s.heap.size ≤ q → (fun q : Nat => s.heap.size ≤ q) q := fun _ h => h
  have hbA : ¬ (fun q : Nat => s.heap.size ≤ q) b := Nat.not_le.mpr hbl
  have hP := hP.sub (ws' := [(qx, .inr (11, [.ref (u.1 0), .ref (u.1 2), .ref (u.1 13), .ref (u.1 22), .ref (u.1 26), .ref (u.1 69), .ref (u.1 73), .ref (u.1 74), .ref (u.1 77), .ref (u.1 79), .ref (u.1 83)])), ((u.1 13), .inr (3, [.int 0, .int 0, .int 0, .int 0, .int 0, .int 0, .int 0, .int 0, .ref (u.1 14), .ref (u.1 15), .ref (u.1 16), .ref (u.1 17), .ref (u.1 18), .ref (u.1 19), .ref (u.1 20), .ref (u.1 21)])), (qm, .inr (12, [.int 0, .ref (v.1 0), .ref (v.1 1), .ref (v.1 2), .ref (v.1 3), .int 0, .ref (v.1 4), .int 0, .int 0, .int 0, .int 0, .int 0, .int 0, .int (-1), .ref (v.1 5), .int 0, .int 0, .int 0, .int 0, .int 0, .int 0, .ref (v.1 6), .ref (v.1 7), .ref (v.1 8), .ref (v.1 9), .int 0, .int 0, .ref (v.1 10), .int 0, .ref (v.1 11), .int 0, .ref (v.1 12), .ref (v.1 13), .ref (v.1 14), .ref (v.1 15)])), ((v.1 0), .inl (cA 1, 122, .inl (fun _ => 0)))]) [0, 14, 87, 88] rfl
  have hD := hD.sub (ws' := [(qx, .inr (11, [.ref (u.1 0), .ref (u.1 2), .ref (u.1 13), .ref (u.1 22), .ref (u.1 26), .ref (u.1 69), .ref (u.1 73), .ref (u.1 74), .ref (u.1 77), .ref (u.1 79), .ref (u.1 83)])), ((u.1 13), .inr (3, [.int 0, .int 0, .int 0, .int 0, .int 0, .int 0, .int 0, .int 0, .ref (u.1 14), .ref (u.1 15), .ref (u.1 16), .ref (u.1 17), .ref (u.1 18), .ref (u.1 19), .ref (u.1 20), .ref (u.1 21)])), (qm, .inr (12, [.int 0, .ref (v.1 0), .ref (v.1 1), .ref (v.1 2), .ref (v.1 3), .int 0, .ref (v.1 4), .int 0, .int 0, .int 0, .int 0, .int 0, .int 0, .int (-1), .ref (v.1 5), .int 0, .int 0, .int 0, .int 0, .int 0, .int 0, .ref (v.1 6), .ref (v.1 7), .ref (v.1 8), .ref (v.1 9), .int 0, .int 0, .ref (v.1 10), .int 0, .ref (v.1 11), .int 0, .ref (v.1 12), .ref (v.1 13), .ref (v.1 14), .ref (v.1 15)])), ((v.1 0), .inl (cA 1, 122, .inl (fun _ => 0)))]) [0, 14, 87, 88] (by decide) rfl
  refine lv_aload_n hx hb dL_law_1858 rfl (lv_at hl 2 rfl) ?_
  refine cpVi (rest := []) ⟨hx, hb, hml, hown, hts⟩ hKN (hP.sub (ws' := [(qx, .inr (11, [.ref (u.1 0), .ref (u.1 2), .ref (u.1 13), .ref (u.1 22), .ref (u.1 26), .ref (u.1 69), .ref (u.1 73), .ref (u.1 74), .ref (u.1 77), .ref (u.1 79), .ref (u.1 83)])), ((u.1 13), .inr (3, [.int 0, .int 0, .int 0, .int 0, .int 0, .int 0, .int 0, .int 0, .ref (u.1 14), .ref (u.1 15), .ref (u.1 16), .ref (u.1 17), .ref (u.1 18), .ref (u.1 19), .ref (u.1 20), .ref (u.1 21)]))]) [0, 1] rfl) (k_X11_undo l D cA qx (u.1 0) (u.1 2) (u.1 13) (u.1 22) (u.1 26) (u.1 69) (u.1 73) (u.1 74) (u.1 77) (u.1 79) (u.1 83) (u.1 14) (u.1 15) (u.1 16) (u.1 17) (u.1 18) (u.1 19) (u.1 20) (u.1 21)) (tb_V tw_1323 tw_1324 tw_1325 tw_101 tw_1326) hdX11_undo ⟨rfl, rfl, Nat.le_of_ble_eq_true rfl, Nat.le_of_ble_eq_true rfl⟩ ⟨Nat.le_of_ble_eq_true rfl, Nat.le_of_ble_eq_true rfl⟩ rfl rfl rfl hl.1 rfl (Nat.le_of_ble_eq_true rfl) dL_law_1859 (fun r_1 hr_1 => ?_)
  obtain rfl : r_1 = (-2) := hr_1
  refine lv_aload_n hx hb dL_law_1862 rfl (lv_at hl 1 rfl) ?_
  refine cpVi (rest := [.int (-2)]) ⟨hx, hb, hml, hown, hts⟩ hKN (hP.sub (ws' := [(qm, .inr (12, [.int 0, .ref (v.1 0), .ref (v.1 1), .ref (v.1 2), .ref (v.1 3), .int 0, .ref (v.1 4), .int 0, .int 0, .int 0, .int 0, .int 0, .int 0, .int (-1), .ref (v.1 5), .int 0, .int 0, .int 0, .int 0, .int 0, .int 0, .ref (v.1 6), .ref (v.1 7), .ref (v.1 8), .ref (v.1 9), .int 0, .int 0, .ref (v.1 10), .int 0, .ref (v.1 11), .int 0, .ref (v.1 12), .ref (v.1 13), .ref (v.1 14), .ref (v.1 15)])), ((v.1 0), .inl (cA 1, 122, .inl (fun _ => 0)))]) [2, 3] rfl) (k_X12_undo l D cA qm (v.1 0) (v.1 1) (v.1 2) (v.1 3) (v.1 4) (v.1 5) (v.1 6) (v.1 7) (v.1 8) (v.1 9) (v.1 10) (v.1 11) (v.1 12) (v.1 13) (v.1 14) (v.1 15)) (tb_V tw_2099 tw_2100 tw_2101 tw_114 tw_2102) hdX12_undo ⟨rfl, rfl, Nat.le_of_ble_eq_true rfl, Nat.le_of_ble_eq_true rfl⟩ ⟨Nat.le_of_ble_eq_true rfl, Nat.le_of_ble_eq_true rfl⟩ rfl rfl rfl hl.1 rfl (Nat.le_of_ble_eq_true rfl) dL_law_1863 (fun r_2 hr_2 => ?_)
  obtain rfl : r_2 = (-2) := hr_2
  refine lv_icmp_eq (tgt := 2271) hx hb dL_law_1866 (by decide) (fun c_3 => ?_) (fun c_3 => absurd (by decide) c_3)
  exact lawEnd l C0 hS (Nat.le_of_ble_eq_true rfl) (Nat.le_of_ble_eq_true rfl) (lv_sub hl [0, 1, 2, 3] rfl)
set_option maxHeartbeats 4000000 in
set_option maxRecDepth 100000 in
theorem law_c63 {p : Program} {e : Env} {s : State} {m : MethodId} {below : List Frame} {meth : Method} {c : Code} (l : Launch) {b : Nat} {xs : Nat → Int32} (C0 : lw_At p s m meth c b 6 xs) (D : va_G) (cA : Nat → ClassId) (hKN : KN D cA s) {H : Heap} {locs : List Loc} {ls : Array Slot} (qx qm : Nat) (u v : SU) (hP : va_P D vwCl (wXM cA qx qm u v) H) (hD : va_D (fun q : Nat => s.heap.size ≤ q) (wXM cA qx qm u v)) (hS : va_S (fun q : Nat => s.heap.size ≤ q) s.heap H locs) (hl : lv_has ls 4 [(3, .int 0), (2, .ref qm), (1, .ref qx), (0, .ref b)]) : W p l e room_1 s m #[Value.ref b] below meth c H locs 104 9712 (lw_Z below #[Value.ref b] s) (F0 m 1871 ls []) := by
  obtain ⟨hx, hb, hr, hml, hown, hts0, hX, hbl, hlocks, hgv⟩ := id C0
  have hts : ∀ w ∈ TB, w.before _ s = true := fun w h => hts0 w (List.mem_filter.mp h).1
  have hb : c.code = cL_law := hb
  have hown : s.vm.findClass "WristTreatyLaw" = some m.cls := hown
  have hA : ∀ q : Nat, s.heap.size ≤ q → (fun q : Nat => s.heap.size ≤ q) q := fun _ h => h
  have hbA : ¬ (fun q : Nat => s.heap.size ≤ q) b := Nat.not_le.mpr hbl
  have hP := hP.sub (ws' := [(qx, .inr (11, [.ref (u.1 0), .ref (u.1 2), .ref (u.1 13), .ref (u.1 22), .ref (u.1 26), .ref (u.1 69), .ref (u.1 73), .ref (u.1 74), .ref (u.1 77), .ref (u.1 79), .ref (u.1 83)])), ((u.1 13), .inr (3, [.int 0, .int 0, .int 0, .int 0, .int 0, .int 0, .int 0, .int 0, .ref (u.1 14), .ref (u.1 15), .ref (u.1 16), .ref (u.1 17), .ref (u.1 18), .ref (u.1 19), .ref (u.1 20), .ref (u.1 21)])), (qm, .inr (12, [.int 0, .ref (v.1 0), .ref (v.1 1), .ref (v.1 2), .ref (v.1 3), .int 0, .ref (v.1 4), .int 0, .int 0, .int 0, .int 0, .int 0, .int 0, .int (-1), .ref (v.1 5), .int 0, .int 0, .int 0, .int 0, .int 0, .int 0, .ref (v.1 6), .ref (v.1 7), .ref (v.1 8), .ref (v.1 9), .int 0, .int 0, .ref (v.1 10), .int 0, .ref (v.1 11), .int 0, .ref (v.1 12), .ref (v.1 13), .ref (v.1 14), .ref (v.1 15)])), ((v.1 0), .inl (cA 1, 122, .inl (fun _ => 0)))]) [0, 14, 87, 88] rfl
  have hD := hD.sub (ws' := [(qx, .inr (11, [.ref (u.1 0), .ref (u.1 2), .ref (u.1 13), .ref (u.1 22), .ref (u.1 26), .ref (u.1 69), .ref (u.1 73), .ref (u.1 74), .ref (u.1 77), .ref (u.1 79), .ref (u.1 83)])), ((u.1 13), .inr (3, [.int 0, .int 0, .int 0, .int 0, .int 0, .int 0, .int 0, .int 0, .ref (u.1 14), .ref (u.1 15), .ref (u.1 16), .ref (u.1 17), .ref (u.1 18), .ref (u.1 19), .ref (u.1 20), .ref (u.1 21)])), (qm, .inr (12, [.int 0, .ref (v.1 0), .ref (v.1 1), .ref (v.1 2), .ref (v.1 3), .int 0, .ref (v.1 4), .int 0, .int 0, .int 0, .int 0, .int 0, .int 0, .int (-1), .ref (v.1 5), .int 0, .int 0, .int 0, .int 0, .int 0, .int 0, .ref (v.1 6), .ref (v.1 7), .ref (v.1 8), .ref (v.1 9), .int 0, .int 0, .ref (v.1 10), .int 0, .ref (v.1 11), .int 0, .ref (v.1 12), .ref (v.1 13), .ref (v.1 14), .ref (v.1 15)])), ((v.1 0), .inl (cA 1, 122, .inl (fun _ => 0)))]) [0, 14, 87, 88] (by decide) rfl
  refine lv_aload_n hx hb dL_law_1871 rfl (lv_at hl 2 rfl) ?_
  refine cpVi (rest := []) ⟨hx, hb, hml, hown, hts⟩ hKN (hP.sub (ws' := [(qx, .inr (11, [.ref (u.1 0), .ref (u.1 2), .ref (u.1 13), .ref (u.1 22), .ref (u.1 26), .ref (u.1 69), .ref (u.1 73), .ref (u.1 74), .ref (u.1 77), .ref (u.1 79), .ref (u.1 83)])), ((u.1 13), .inr (3, [.int 0, .int 0, .int 0, .int 0, .int 0, .int 0, .int 0, .int 0, .ref (u.1 14), .ref (u.1 15), .ref (u.1 16), .ref (u.1 17), .ref (u.1 18), .ref (u.1 19), .ref (u.1 20), .ref (u.1 21)]))]) [0, 1] rfl) (k_X11_anew l D cA qx (u.1 0) (u.1 2) (u.1 13) (u.1 22) (u.1 26) (u.1 69) (u.1 73) (u.1 74) (u.1 77) (u.1 79) (u.1 83) (u.1 14) (u.1 15) (u.1 16) (u.1 17) (u.1 18) (u.1 19) (u.1 20) (u.1 21)) (tb_V tw_1332 tw_1333 tw_1334 tw_101 tw_1335) hdX11_anew ⟨rfl, rfl, Nat.le_of_ble_eq_true rfl, Nat.le_of_ble_eq_true rfl⟩ ⟨Nat.le_of_ble_eq_true rfl, Nat.le_of_ble_eq_true rfl⟩ rfl rfl rfl hl.1 rfl (Nat.le_of_ble_eq_true rfl) dL_law_1872 (fun r_1 hr_1 => ?_)
  obtain rfl : r_1 = (-2) := hr_1
  refine lv_aload_n hx hb dL_law_1875 rfl (lv_at hl 1 rfl) ?_
  refine cpVi (rest := [.int (-2)]) ⟨hx, hb, hml, hown, hts⟩ hKN (hP.sub (ws' := [(qm, .inr (12, [.int 0, .ref (v.1 0), .ref (v.1 1), .ref (v.1 2), .ref (v.1 3), .int 0, .ref (v.1 4), .int 0, .int 0, .int 0, .int 0, .int 0, .int 0, .int (-1), .ref (v.1 5), .int 0, .int 0, .int 0, .int 0, .int 0, .int 0, .ref (v.1 6), .ref (v.1 7), .ref (v.1 8), .ref (v.1 9), .int 0, .int 0, .ref (v.1 10), .int 0, .ref (v.1 11), .int 0, .ref (v.1 12), .ref (v.1 13), .ref (v.1 14), .ref (v.1 15)])), ((v.1 0), .inl (cA 1, 122, .inl (fun _ => 0)))]) [2, 3] rfl) (k_X12_anew l D cA qm (v.1 0) (v.1 1) (v.1 2) (v.1 3) (v.1 4) (v.1 5) (v.1 6) (v.1 7) (v.1 8) (v.1 9) (v.1 10) (v.1 11) (v.1 12) (v.1 13) (v.1 14) (v.1 15)) (tb_V tw_2103 tw_2104 tw_2105 tw_114 tw_2106) hdX12_anew ⟨rfl, rfl, Nat.le_of_ble_eq_true rfl, Nat.le_of_ble_eq_true rfl⟩ ⟨Nat.le_of_ble_eq_true rfl, Nat.le_of_ble_eq_true rfl⟩ rfl rfl rfl hl.1 rfl (Nat.le_of_ble_eq_true rfl) dL_law_1876 (fun r_2 hr_2 => ?_)
  obtain rfl : r_2 = (-2) := hr_2
  refine lv_icmp_eq (tgt := 2271) hx hb dL_law_1879 (by decide) (fun c_3 => ?_) (fun c_3 => absurd (by decide) c_3)
  exact lawEnd l C0 hS (Nat.le_of_ble_eq_true rfl) (Nat.le_of_ble_eq_true rfl) (lv_sub hl [0, 1, 2, 3] rfl)
set_option maxHeartbeats 4000000 in
set_option maxRecDepth 100000 in
theorem law_c64 {p : Program} {e : Env} {s : State} {m : MethodId} {below : List Frame} {meth : Method} {c : Code} (l : Launch) {b : Nat} {xs : Nat → Int32} (C0 : lw_At p s m meth c b 6 xs) (D : va_G) (cA : Nat → ClassId) (hKN : KN D cA s) {H : Heap} {locs : List Loc} {ls : Array Slot} (qx qm : Nat) (u v : SU) (hP : va_P D vwCl (wXM cA qx qm u v) H) (hD : va_D (fun q : Nat => s.heap.size ≤ q) (wXM cA qx qm u v)) (hS : va_S (fun q : Nat => s.heap.size ≤ q) s.heap H locs) (hl : lv_has ls 4 [(3, .int 0), (2, .ref qm), (1, .ref qx), (0, .ref b)]) : W p l e room_1 s m #[Value.ref b] below meth c H locs 104 9712 (lw_Z below #[Value.ref b] s) (F0 m 1884 ls []) := by
  obtain ⟨hx, hb, hr, hml, hown, hts0, hX, hbl, hlocks, hgv⟩ := id C0
  have hts : ∀ w ∈ TB, w.before _ s = true := fun w h => hts0 w (List.mem_filter.mp h).1
  have hb : c.code = cL_law := hb
  have hown : s.vm.findClass "WristTreatyLaw" = some m.cls := hown
  have hA : ∀ q : Nat, s.heap.size ≤ q → (fun q : Nat => s.heap.size ≤ q) q := fun _ h => h
  have hbA : ¬ (fun q : Nat => s.heap.size ≤ q) b := Nat.not_le.mpr hbl
  have hP := hP.sub (ws' := [(qx, .inr (11, [.ref (u.1 0), .ref (u.1 2), .ref (u.1 13), .ref (u.1 22), .ref (u.1 26), .ref (u.1 69), .ref (u.1 73), .ref (u.1 74), .ref (u.1 77), .ref (u.1 79), .ref (u.1 83)])), ((u.1 13), .inr (3, [.int 0, .int 0, .int 0, .int 0, .int 0, .int 0, .int 0, .int 0, .ref (u.1 14), .ref (u.1 15), .ref (u.1 16), .ref (u.1 17), .ref (u.1 18), .ref (u.1 19), .ref (u.1 20), .ref (u.1 21)])), (qm, .inr (12, [.int 0, .ref (v.1 0), .ref (v.1 1), .ref (v.1 2), .ref (v.1 3), .int 0, .ref (v.1 4), .int 0, .int 0, .int 0, .int 0, .int 0, .int 0, .int (-1), .ref (v.1 5), .int 0, .int 0, .int 0, .int 0, .int 0, .int 0, .ref (v.1 6), .ref (v.1 7), .ref (v.1 8), .ref (v.1 9), .int 0, .int 0, .ref (v.1 10), .int 0, .ref (v.1 11), .int 0, .ref (v.1 12), .ref (v.1 13), .ref (v.1 14), .ref (v.1 15)])), ((v.1 0), .inl (cA 1, 122, .inl (fun _ => 0)))]) [0, 14, 87, 88] rfl
  have hD := hD.sub (ws' := [(qx, .inr (11, [.ref (u.1 0), .ref (u.1 2), .ref (u.1 13), .ref (u.1 22), .ref (u.1 26), .ref (u.1 69), .ref (u.1 73), .ref (u.1 74), .ref (u.1 77), .ref (u.1 79), .ref (u.1 83)])), ((u.1 13), .inr (3, [.int 0, .int 0, .int 0, .int 0, .int 0, .int 0, .int 0, .int 0, .ref (u.1 14), .ref (u.1 15), .ref (u.1 16), .ref (u.1 17), .ref (u.1 18), .ref (u.1 19), .ref (u.1 20), .ref (u.1 21)])), (qm, .inr (12, [.int 0, .ref (v.1 0), .ref (v.1 1), .ref (v.1 2), .ref (v.1 3), .int 0, .ref (v.1 4), .int 0, .int 0, .int 0, .int 0, .int 0, .int 0, .int (-1), .ref (v.1 5), .int 0, .int 0, .int 0, .int 0, .int 0, .int 0, .ref (v.1 6), .ref (v.1 7), .ref (v.1 8), .ref (v.1 9), .int 0, .int 0, .ref (v.1 10), .int 0, .ref (v.1 11), .int 0, .ref (v.1 12), .ref (v.1 13), .ref (v.1 14), .ref (v.1 15)])), ((v.1 0), .inl (cA 1, 122, .inl (fun _ => 0)))]) [0, 14, 87, 88] (by decide) rfl
  refine lv_aload_n hx hb dL_law_1884 rfl (lv_at hl 2 rfl) ?_
  refine lv_aload_n hx hb dL_law_1885 rfl (lv_at hl 3 rfl) ?_
  refine lv_iload_n hx hb dL_law_1886 rfl (lv_at hl 0 rfl) ?_
  refine lv_iconst (v := 1) hx hb dL_law_1887 (by decide) ?_
  refine lv_iadd hx hb dL_law_1888 ?_
  refine lv_topi (fun x_1 ex_1 => ?_)
  obtain rfl : x_1 = 1 := ex_1.trans (by decide)
  refine va_sld hx hb hX hbl hbA hS (L := 6) (by unfold vp_in; decide) dL_law_1889 ?_
  refine W.eq (g2 := F0 m 1890 ls [.int (xs 1), .ref qx]) rfl ?_
  refine lv_aload_n hx hb dL_law_1890 rfl (lv_at hl 3 rfl) ?_
  refine lv_iload_n hx hb dL_law_1891 rfl (lv_at hl 0 rfl) ?_
  refine lv_iconst (v := 2) hx hb dL_law_1892 (by decide) ?_
  refine lv_iadd hx hb dL_law_1893 ?_
  refine lv_topi (fun x_2 ex_2 => ?_)
  obtain rfl : x_2 = 2 := ex_2.trans (by decide)
  refine va_sld hx hb hX hbl hbA hS (L := 6) (by unfold vp_in; decide) dL_law_1894 ?_
  refine W.eq (g2 := F0 m 1895 ls [.int (xs 2), .int (xs 1), .ref qx]) rfl ?_
  refine lv_aload_n hx hb dL_law_1895 rfl (lv_at hl 3 rfl) ?_
  refine lv_iload_n hx hb dL_law_1896 rfl (lv_at hl 0 rfl) ?_
  refine lv_iconst (v := 3) hx hb dL_law_1897 (by decide) ?_
  refine lv_iadd hx hb dL_law_1898 ?_
  refine lv_topi (fun x_3 ex_3 => ?_)
  obtain rfl : x_3 = 3 := ex_3.trans (by decide)
  refine va_sld hx hb hX hbl hbA hS (L := 6) (by unfold vp_in; decide) dL_law_1899 ?_
  refine W.eq (g2 := F0 m 1900 ls [.int (xs 3), .int (xs 2), .int (xs 1), .ref qx]) rfl ?_
  refine cpVi (rest := []) ⟨hx, hb, hml, hown, hts⟩ hKN (hP.sub (ws' := [(qx, .inr (11, [.ref (u.1 0), .ref (u.1 2), .ref (u.1 13), .ref (u.1 22), .ref (u.1 26), .ref (u.1 69), .ref (u.1 73), .ref (u.1 74), .ref (u.1 77), .ref (u.1 79), .ref (u.1 83)])), ((u.1 13), .inr (3, [.int 0, .int 0, .int 0, .int 0, .int 0, .int 0, .int 0, .int 0, .ref (u.1 14), .ref (u.1 15), .ref (u.1 16), .ref (u.1 17), .ref (u.1 18), .ref (u.1 19), .ref (u.1 20), .ref (u.1 21)]))]) [0, 1] rfl) (k_X11_drawn l D cA qx (u.1 0) (u.1 2) (u.1 13) (u.1 22) (u.1 26) (u.1 69) (u.1 73) (u.1 74) (u.1 77) (u.1 79) (u.1 83) (u.1 14) (u.1 15) (u.1 16) (u.1 17) (u.1 18) (u.1 19) (u.1 20) (u.1 21) (xs 1) (xs 2) (xs 3)) (tb_V tw_1336 tw_1337 tw_1338 tw_101 tw_1339) hdX11_drawn ⟨rfl, rfl, Nat.le_of_ble_eq_true rfl, Nat.le_of_ble_eq_true rfl⟩ ⟨Nat.le_of_ble_eq_true rfl, Nat.le_of_ble_eq_true rfl⟩ rfl rfl rfl hl.1 rfl (Nat.le_of_ble_eq_true rfl) dL_law_1900 (fun r_4 hr_4 => ?_)
  obtain rfl : r_4 = (-2) := hr_4
  refine lv_aload_n hx hb dL_law_1903 rfl (lv_at hl 1 rfl) ?_
  refine lv_aload_n hx hb dL_law_1904 rfl (lv_at hl 3 rfl) ?_
  refine lv_iload_n hx hb dL_law_1905 rfl (lv_at hl 0 rfl) ?_
  refine lv_iconst (v := 1) hx hb dL_law_1906 (by decide) ?_
  refine lv_iadd hx hb dL_law_1907 ?_
  refine lv_topi (fun x_5 ex_5 => ?_)
  obtain rfl : x_5 = 1 := ex_5.trans (by decide)
  refine va_sld hx hb hX hbl hbA hS (L := 6) (by unfold vp_in; decide) dL_law_1908 ?_
  refine W.eq (g2 := F0 m 1909 ls [.int (xs 1), .ref qm, .int (-2)]) rfl ?_
  refine lv_aload_n hx hb dL_law_1909 rfl (lv_at hl 3 rfl) ?_
  refine lv_iload_n hx hb dL_law_1910 rfl (lv_at hl 0 rfl) ?_
  refine lv_iconst (v := 2) hx hb dL_law_1911 (by decide) ?_
  refine lv_iadd hx hb dL_law_1912 ?_
  refine lv_topi (fun x_6 ex_6 => ?_)
  obtain rfl : x_6 = 2 := ex_6.trans (by decide)
  refine va_sld hx hb hX hbl hbA hS (L := 6) (by unfold vp_in; decide) dL_law_1913 ?_
  refine W.eq (g2 := F0 m 1914 ls [.int (xs 2), .int (xs 1), .ref qm, .int (-2)]) rfl ?_
  refine lv_aload_n hx hb dL_law_1914 rfl (lv_at hl 3 rfl) ?_
  refine lv_iload_n hx hb dL_law_1915 rfl (lv_at hl 0 rfl) ?_
  refine lv_iconst (v := 3) hx hb dL_law_1916 (by decide) ?_
  refine lv_iadd hx hb dL_law_1917 ?_
  refine lv_topi (fun x_7 ex_7 => ?_)
  obtain rfl : x_7 = 3 := ex_7.trans (by decide)
  refine va_sld hx hb hX hbl hbA hS (L := 6) (by unfold vp_in; decide) dL_law_1918 ?_
  refine W.eq (g2 := F0 m 1919 ls [.int (xs 3), .int (xs 2), .int (xs 1), .ref qm, .int (-2)]) rfl ?_
  refine cpVi (rest := [.int (-2)]) ⟨hx, hb, hml, hown, hts⟩ hKN (hP.sub (ws' := [(qm, .inr (12, [.int 0, .ref (v.1 0), .ref (v.1 1), .ref (v.1 2), .ref (v.1 3), .int 0, .ref (v.1 4), .int 0, .int 0, .int 0, .int 0, .int 0, .int 0, .int (-1), .ref (v.1 5), .int 0, .int 0, .int 0, .int 0, .int 0, .int 0, .ref (v.1 6), .ref (v.1 7), .ref (v.1 8), .ref (v.1 9), .int 0, .int 0, .ref (v.1 10), .int 0, .ref (v.1 11), .int 0, .ref (v.1 12), .ref (v.1 13), .ref (v.1 14), .ref (v.1 15)])), ((v.1 0), .inl (cA 1, 122, .inl (fun _ => 0)))]) [2, 3] rfl) (k_X12_drawn l D cA qm (v.1 0) (v.1 1) (v.1 2) (v.1 3) (v.1 4) (v.1 5) (v.1 6) (v.1 7) (v.1 8) (v.1 9) (v.1 10) (v.1 11) (v.1 12) (v.1 13) (v.1 14) (v.1 15) (xs 1) (xs 2) (xs 3)) (tb_V tw_2107 tw_2108 tw_2109 tw_114 tw_2110) hdX12_drawn ⟨rfl, rfl, Nat.le_of_ble_eq_true rfl, Nat.le_of_ble_eq_true rfl⟩ ⟨Nat.le_of_ble_eq_true rfl, Nat.le_of_ble_eq_true rfl⟩ rfl rfl rfl hl.1 rfl (Nat.le_of_ble_eq_true rfl) dL_law_1919 (fun r_8 hr_8 => ?_)
  obtain rfl : r_8 = (-2) := hr_8
  refine lv_icmp_eq (tgt := 2271) hx hb dL_law_1922 (by decide) (fun c_9 => ?_) (fun c_9 => absurd (by decide) c_9)
  exact lawEnd l C0 hS (Nat.le_of_ble_eq_true rfl) (Nat.le_of_ble_eq_true rfl) (lv_sub hl [0, 1, 2, 3] rfl)
set_option maxHeartbeats 4000000 in
set_option maxRecDepth 100000 in
theorem law_c65 {p : Program} {e : Env} {s : State} {m : MethodId} {below : List Frame} {meth : Method} {c : Code} (l : Launch) {b : Nat} {xs : Nat → Int32} (C0 : lw_At p s m meth c b 6 xs) (D : va_G) (cA : Nat → ClassId) (hKN : KN D cA s) {H : Heap} {locs : List Loc} {ls : Array Slot} (qx qm : Nat) (u v : SU) (hP : va_P D vwCl (wXM cA qx qm u v) H) (hD : va_D (fun q : Nat => s.heap.size ≤ q) (wXM cA qx qm u v)) (hS : va_S (fun q : Nat => s.heap.size ≤ q) s.heap H locs) (hl : lv_has ls 4 [(3, .int 0), (2, .ref qm), (1, .ref qx), (0, .ref b)]) : W p l e room_1 s m #[Value.ref b] below meth c H locs 104 9712 (lw_Z below #[Value.ref b] s) (F0 m 1927 ls []) := by
  obtain ⟨hx, hb, hr, hml, hown, hts0, hX, hbl, hlocks, hgv⟩ := id C0
  have hts : ∀ w ∈ TB, w.before _ s = true := fun w h => hts0 w (List.mem_filter.mp h).1
  have hb : c.code = cL_law := hb
  have hown : s.vm.findClass "WristTreatyLaw" = some m.cls := hown
  have hA : ∀ q : Nat, s.heap.size ≤ q → (fun q : Nat => s.heap.size ≤ q) q := fun _ h => h
  have hbA : ¬ (fun q : Nat => s.heap.size ≤ q) b := Nat.not_le.mpr hbl
  have hP := hP.sub (ws' := [(qx, .inr (11, [.ref (u.1 0), .ref (u.1 2), .ref (u.1 13), .ref (u.1 22), .ref (u.1 26), .ref (u.1 69), .ref (u.1 73), .ref (u.1 74), .ref (u.1 77), .ref (u.1 79), .ref (u.1 83)])), ((u.1 13), .inr (3, [.int 0, .int 0, .int 0, .int 0, .int 0, .int 0, .int 0, .int 0, .ref (u.1 14), .ref (u.1 15), .ref (u.1 16), .ref (u.1 17), .ref (u.1 18), .ref (u.1 19), .ref (u.1 20), .ref (u.1 21)])), (qm, .inr (12, [.int 0, .ref (v.1 0), .ref (v.1 1), .ref (v.1 2), .ref (v.1 3), .int 0, .ref (v.1 4), .int 0, .int 0, .int 0, .int 0, .int 0, .int 0, .int (-1), .ref (v.1 5), .int 0, .int 0, .int 0, .int 0, .int 0, .int 0, .ref (v.1 6), .ref (v.1 7), .ref (v.1 8), .ref (v.1 9), .int 0, .int 0, .ref (v.1 10), .int 0, .ref (v.1 11), .int 0, .ref (v.1 12), .ref (v.1 13), .ref (v.1 14), .ref (v.1 15)])), ((v.1 0), .inl (cA 1, 122, .inl (fun _ => 0)))]) [0, 14, 87, 88] rfl
  have hD := hD.sub (ws' := [(qx, .inr (11, [.ref (u.1 0), .ref (u.1 2), .ref (u.1 13), .ref (u.1 22), .ref (u.1 26), .ref (u.1 69), .ref (u.1 73), .ref (u.1 74), .ref (u.1 77), .ref (u.1 79), .ref (u.1 83)])), ((u.1 13), .inr (3, [.int 0, .int 0, .int 0, .int 0, .int 0, .int 0, .int 0, .int 0, .ref (u.1 14), .ref (u.1 15), .ref (u.1 16), .ref (u.1 17), .ref (u.1 18), .ref (u.1 19), .ref (u.1 20), .ref (u.1 21)])), (qm, .inr (12, [.int 0, .ref (v.1 0), .ref (v.1 1), .ref (v.1 2), .ref (v.1 3), .int 0, .ref (v.1 4), .int 0, .int 0, .int 0, .int 0, .int 0, .int 0, .int (-1), .ref (v.1 5), .int 0, .int 0, .int 0, .int 0, .int 0, .int 0, .ref (v.1 6), .ref (v.1 7), .ref (v.1 8), .ref (v.1 9), .int 0, .int 0, .ref (v.1 10), .int 0, .ref (v.1 11), .int 0, .ref (v.1 12), .ref (v.1 13), .ref (v.1 14), .ref (v.1 15)])), ((v.1 0), .inl (cA 1, 122, .inl (fun _ => 0)))]) [0, 14, 87, 88] (by decide) rfl
  refine lv_aload_n hx hb dL_law_1927 rfl (lv_at hl 2 rfl) ?_
  refine lv_aload_n hx hb dL_law_1928 rfl (lv_at hl 3 rfl) ?_
  refine lv_iload_n hx hb dL_law_1929 rfl (lv_at hl 0 rfl) ?_
  refine lv_iconst (v := 1) hx hb dL_law_1930 (by decide) ?_
  refine lv_iadd hx hb dL_law_1931 ?_
  refine lv_topi (fun x_1 ex_1 => ?_)
  obtain rfl : x_1 = 1 := ex_1.trans (by decide)
  refine va_sld hx hb hX hbl hbA hS (L := 6) (by unfold vp_in; decide) dL_law_1932 ?_
  refine W.eq (g2 := F0 m 1933 ls [.int (xs 1), .ref qx]) rfl ?_
  refine lv_aload_n hx hb dL_law_1933 rfl (lv_at hl 3 rfl) ?_
  refine lv_iload_n hx hb dL_law_1934 rfl (lv_at hl 0 rfl) ?_
  refine lv_iconst (v := 2) hx hb dL_law_1935 (by decide) ?_
  refine lv_iadd hx hb dL_law_1936 ?_
  refine lv_topi (fun x_2 ex_2 => ?_)
  obtain rfl : x_2 = 2 := ex_2.trans (by decide)
  refine va_sld hx hb hX hbl hbA hS (L := 6) (by unfold vp_in; decide) dL_law_1937 ?_
  refine W.eq (g2 := F0 m 1938 ls [.int (xs 2), .int (xs 1), .ref qx]) rfl ?_
  refine lv_aload_n hx hb dL_law_1938 rfl (lv_at hl 3 rfl) ?_
  refine lv_iload_n hx hb dL_law_1939 rfl (lv_at hl 0 rfl) ?_
  refine lv_iconst (v := 3) hx hb dL_law_1940 (by decide) ?_
  refine lv_iadd hx hb dL_law_1941 ?_
  refine lv_topi (fun x_3 ex_3 => ?_)
  obtain rfl : x_3 = 3 := ex_3.trans (by decide)
  refine va_sld hx hb hX hbl hbA hS (L := 6) (by unfold vp_in; decide) dL_law_1942 ?_
  refine W.eq (g2 := F0 m 1943 ls [.int (xs 3), .int (xs 2), .int (xs 1), .ref qx]) rfl ?_
  refine lv_aload_n hx hb dL_law_1943 rfl (lv_at hl 3 rfl) ?_
  refine lv_iload_n hx hb dL_law_1944 rfl (lv_at hl 0 rfl) ?_
  refine lv_iconst (v := 4) hx hb dL_law_1945 (by decide) ?_
  refine lv_iadd hx hb dL_law_1946 ?_
  refine lv_topi (fun x_4 ex_4 => ?_)
  obtain rfl : x_4 = 4 := ex_4.trans (by decide)
  refine va_sld hx hb hX hbl hbA hS (L := 6) (by unfold vp_in; decide) dL_law_1947 ?_
  refine W.eq (g2 := F0 m 1948 ls [.int (xs 4), .int (xs 3), .int (xs 2), .int (xs 1), .ref qx]) rfl ?_
  refine lv_aload_n hx hb dL_law_1948 rfl (lv_at hl 3 rfl) ?_
  refine lv_iload_n hx hb dL_law_1949 rfl (lv_at hl 0 rfl) ?_
  refine lv_iconst (v := 5) hx hb dL_law_1950 (by decide) ?_
  refine lv_iadd hx hb dL_law_1951 ?_
  refine lv_topi (fun x_5 ex_5 => ?_)
  obtain rfl : x_5 = 5 := ex_5.trans (by decide)
  refine va_sld hx hb hX hbl hbA hS (L := 6) (by unfold vp_in; decide) dL_law_1952 ?_
  refine W.eq (g2 := F0 m 1953 ls [.int (xs 5), .int (xs 4), .int (xs 3), .int (xs 2), .int (xs 1), .ref qx]) rfl ?_
  refine cpVi (rest := []) ⟨hx, hb, hml, hown, hts⟩ hKN (hP.sub (ws' := [(qx, .inr (11, [.ref (u.1 0), .ref (u.1 2), .ref (u.1 13), .ref (u.1 22), .ref (u.1 26), .ref (u.1 69), .ref (u.1 73), .ref (u.1 74), .ref (u.1 77), .ref (u.1 79), .ref (u.1 83)])), ((u.1 13), .inr (3, [.int 0, .int 0, .int 0, .int 0, .int 0, .int 0, .int 0, .int 0, .ref (u.1 14), .ref (u.1 15), .ref (u.1 16), .ref (u.1 17), .ref (u.1 18), .ref (u.1 19), .ref (u.1 20), .ref (u.1 21)]))]) [0, 1] rfl) (k_X11_luck l D cA qx (u.1 0) (u.1 2) (u.1 13) (u.1 22) (u.1 26) (u.1 69) (u.1 73) (u.1 74) (u.1 77) (u.1 79) (u.1 83) (u.1 14) (u.1 15) (u.1 16) (u.1 17) (u.1 18) (u.1 19) (u.1 20) (u.1 21) (xs 1) (xs 2) (xs 3) (xs 4) (xs 5)) (tb_V tw_1347 tw_1348 tw_1349 tw_101 tw_1350) hdX11_luck ⟨rfl, rfl, Nat.le_of_ble_eq_true rfl, Nat.le_of_ble_eq_true rfl⟩ ⟨Nat.le_of_ble_eq_true rfl, Nat.le_of_ble_eq_true rfl⟩ rfl rfl rfl hl.1 rfl (Nat.le_of_ble_eq_true rfl) dL_law_1953 (fun r_6 hr_6 => ?_)
  obtain rfl : r_6 = (-2) := hr_6
  refine lv_aload_n hx hb dL_law_1956 rfl (lv_at hl 1 rfl) ?_
  refine lv_aload_n hx hb dL_law_1957 rfl (lv_at hl 3 rfl) ?_
  refine lv_iload_n hx hb dL_law_1958 rfl (lv_at hl 0 rfl) ?_
  refine lv_iconst (v := 1) hx hb dL_law_1959 (by decide) ?_
  refine lv_iadd hx hb dL_law_1960 ?_
  refine lv_topi (fun x_7 ex_7 => ?_)
  obtain rfl : x_7 = 1 := ex_7.trans (by decide)
  refine va_sld hx hb hX hbl hbA hS (L := 6) (by unfold vp_in; decide) dL_law_1961 ?_
  refine W.eq (g2 := F0 m 1962 ls [.int (xs 1), .ref qm, .int (-2)]) rfl ?_
  refine lv_aload_n hx hb dL_law_1962 rfl (lv_at hl 3 rfl) ?_
  refine lv_iload_n hx hb dL_law_1963 rfl (lv_at hl 0 rfl) ?_
  refine lv_iconst (v := 2) hx hb dL_law_1964 (by decide) ?_
  refine lv_iadd hx hb dL_law_1965 ?_
  refine lv_topi (fun x_8 ex_8 => ?_)
  obtain rfl : x_8 = 2 := ex_8.trans (by decide)
  refine va_sld hx hb hX hbl hbA hS (L := 6) (by unfold vp_in; decide) dL_law_1966 ?_
  refine W.eq (g2 := F0 m 1967 ls [.int (xs 2), .int (xs 1), .ref qm, .int (-2)]) rfl ?_
  refine lv_aload_n hx hb dL_law_1967 rfl (lv_at hl 3 rfl) ?_
  refine lv_iload_n hx hb dL_law_1968 rfl (lv_at hl 0 rfl) ?_
  refine lv_iconst (v := 3) hx hb dL_law_1969 (by decide) ?_
  refine lv_iadd hx hb dL_law_1970 ?_
  refine lv_topi (fun x_9 ex_9 => ?_)
  obtain rfl : x_9 = 3 := ex_9.trans (by decide)
  refine va_sld hx hb hX hbl hbA hS (L := 6) (by unfold vp_in; decide) dL_law_1971 ?_
  refine W.eq (g2 := F0 m 1972 ls [.int (xs 3), .int (xs 2), .int (xs 1), .ref qm, .int (-2)]) rfl ?_
  refine lv_aload_n hx hb dL_law_1972 rfl (lv_at hl 3 rfl) ?_
  refine lv_iload_n hx hb dL_law_1973 rfl (lv_at hl 0 rfl) ?_
  refine lv_iconst (v := 4) hx hb dL_law_1974 (by decide) ?_
  refine lv_iadd hx hb dL_law_1975 ?_
  refine lv_topi (fun x_10 ex_10 => ?_)
  obtain rfl : x_10 = 4 := ex_10.trans (by decide)
  refine va_sld hx hb hX hbl hbA hS (L := 6) (by unfold vp_in; decide) dL_law_1976 ?_
  refine W.eq (g2 := F0 m 1977 ls [.int (xs 4), .int (xs 3), .int (xs 2), .int (xs 1), .ref qm, .int (-2)]) rfl ?_
  refine lv_aload_n hx hb dL_law_1977 rfl (lv_at hl 3 rfl) ?_
  refine lv_iload_n hx hb dL_law_1978 rfl (lv_at hl 0 rfl) ?_
  refine lv_iconst (v := 5) hx hb dL_law_1979 (by decide) ?_
  refine lv_iadd hx hb dL_law_1980 ?_
  refine lv_topi (fun x_11 ex_11 => ?_)
  obtain rfl : x_11 = 5 := ex_11.trans (by decide)
  refine va_sld hx hb hX hbl hbA hS (L := 6) (by unfold vp_in; decide) dL_law_1981 ?_
  refine W.eq (g2 := F0 m 1982 ls [.int (xs 5), .int (xs 4), .int (xs 3), .int (xs 2), .int (xs 1), .ref qm, .int (-2)]) rfl ?_
  refine cpVi (rest := [.int (-2)]) ⟨hx, hb, hml, hown, hts⟩ hKN (hP.sub (ws' := [(qm, .inr (12, [.int 0, .ref (v.1 0), .ref (v.1 1), .ref (v.1 2), .ref (v.1 3), .int 0, .ref (v.1 4), .int 0, .int 0, .int 0, .int 0, .int 0, .int 0, .int (-1), .ref (v.1 5), .int 0, .int 0, .int 0, .int 0, .int 0, .int 0, .ref (v.1 6), .ref (v.1 7), .ref (v.1 8), .ref (v.1 9), .int 0, .int 0, .ref (v.1 10), .int 0, .ref (v.1 11), .int 0, .ref (v.1 12), .ref (v.1 13), .ref (v.1 14), .ref (v.1 15)])), ((v.1 0), .inl (cA 1, 122, .inl (fun _ => 0)))]) [2, 3] rfl) (k_X12_luck l D cA qm (v.1 0) (v.1 1) (v.1 2) (v.1 3) (v.1 4) (v.1 5) (v.1 6) (v.1 7) (v.1 8) (v.1 9) (v.1 10) (v.1 11) (v.1 12) (v.1 13) (v.1 14) (v.1 15) (xs 1) (xs 2) (xs 3) (xs 4) (xs 5)) (tb_V tw_2122 tw_2123 tw_2124 tw_114 tw_2125) hdX12_luck ⟨rfl, rfl, Nat.le_of_ble_eq_true rfl, Nat.le_of_ble_eq_true rfl⟩ ⟨Nat.le_of_ble_eq_true rfl, Nat.le_of_ble_eq_true rfl⟩ rfl rfl rfl hl.1 rfl (Nat.le_of_ble_eq_true rfl) dL_law_1982 (fun r_12 hr_12 => ?_)
  obtain rfl : r_12 = (-2) := hr_12
  refine lv_icmp_eq (tgt := 2271) hx hb dL_law_1985 (by decide) (fun c_13 => ?_) (fun c_13 => absurd (by decide) c_13)
  exact lawEnd l C0 hS (Nat.le_of_ble_eq_true rfl) (Nat.le_of_ble_eq_true rfl) (lv_sub hl [0, 1, 2, 3] rfl)
set_option maxHeartbeats 4000000 in
set_option maxRecDepth 100000 in
theorem law_c66 {p : Program} {e : Env} {s : State} {m : MethodId} {below : List Frame} {meth : Method} {c : Code} (l : Launch) {b : Nat} {xs : Nat → Int32} (C0 : lw_At p s m meth c b 6 xs) (D : va_G) (cA : Nat → ClassId) (hKN : KN D cA s) {H : Heap} {locs : List Loc} {ls : Array Slot} (qx qm : Nat) (u v : SU) (hP : va_P D vwCl (wXM cA qx qm u v) H) (hD : va_D (fun q : Nat => s.heap.size ≤ q) (wXM cA qx qm u v)) (hS : va_S (fun q : Nat => s.heap.size ≤ q) s.heap H locs) (hl : lv_has ls 4 [(3, .int 0), (2, .ref qm), (1, .ref qx), (0, .ref b)]) : W p l e room_1 s m #[Value.ref b] below meth c H locs 104 9712 (lw_Z below #[Value.ref b] s) (F0 m 1990 ls []) := by
  obtain ⟨hx, hb, hr, hml, hown, hts0, hX, hbl, hlocks, hgv⟩ := id C0
  have hts : ∀ w ∈ TB, w.before _ s = true := fun w h => hts0 w (List.mem_filter.mp h).1
  have hb : c.code = cL_law := hb
  have hown : s.vm.findClass "WristTreatyLaw" = some m.cls := hown
  have hA : ∀ q : Nat, s.heap.size ≤ q → (fun q : Nat => s.heap.size ≤ q) q := fun _ h => h
  have hbA : ¬ (fun q : Nat => s.heap.size ≤ q) b := Nat.not_le.mpr hbl
  have hP := hP.sub (ws' := [(qx, .inr (11, [.ref (u.1 0), .ref (u.1 2), .ref (u.1 13), .ref (u.1 22), .ref (u.1 26), .ref (u.1 69), .ref (u.1 73), .ref (u.1 74), .ref (u.1 77), .ref (u.1 79), .ref (u.1 83)])), ((u.1 13), .inr (3, [.int 0, .int 0, .int 0, .int 0, .int 0, .int 0, .int 0, .int 0, .ref (u.1 14), .ref (u.1 15), .ref (u.1 16), .ref (u.1 17), .ref (u.1 18), .ref (u.1 19), .ref (u.1 20), .ref (u.1 21)])), (qm, .inr (12, [.int 0, .ref (v.1 0), .ref (v.1 1), .ref (v.1 2), .ref (v.1 3), .int 0, .ref (v.1 4), .int 0, .int 0, .int 0, .int 0, .int 0, .int 0, .int (-1), .ref (v.1 5), .int 0, .int 0, .int 0, .int 0, .int 0, .int 0, .ref (v.1 6), .ref (v.1 7), .ref (v.1 8), .ref (v.1 9), .int 0, .int 0, .ref (v.1 10), .int 0, .ref (v.1 11), .int 0, .ref (v.1 12), .ref (v.1 13), .ref (v.1 14), .ref (v.1 15)])), ((v.1 0), .inl (cA 1, 122, .inl (fun _ => 0)))]) [0, 14, 87, 88] rfl
  have hD := hD.sub (ws' := [(qx, .inr (11, [.ref (u.1 0), .ref (u.1 2), .ref (u.1 13), .ref (u.1 22), .ref (u.1 26), .ref (u.1 69), .ref (u.1 73), .ref (u.1 74), .ref (u.1 77), .ref (u.1 79), .ref (u.1 83)])), ((u.1 13), .inr (3, [.int 0, .int 0, .int 0, .int 0, .int 0, .int 0, .int 0, .int 0, .ref (u.1 14), .ref (u.1 15), .ref (u.1 16), .ref (u.1 17), .ref (u.1 18), .ref (u.1 19), .ref (u.1 20), .ref (u.1 21)])), (qm, .inr (12, [.int 0, .ref (v.1 0), .ref (v.1 1), .ref (v.1 2), .ref (v.1 3), .int 0, .ref (v.1 4), .int 0, .int 0, .int 0, .int 0, .int 0, .int 0, .int (-1), .ref (v.1 5), .int 0, .int 0, .int 0, .int 0, .int 0, .int 0, .ref (v.1 6), .ref (v.1 7), .ref (v.1 8), .ref (v.1 9), .int 0, .int 0, .ref (v.1 10), .int 0, .ref (v.1 11), .int 0, .ref (v.1 12), .ref (v.1 13), .ref (v.1 14), .ref (v.1 15)])), ((v.1 0), .inl (cA 1, 122, .inl (fun _ => 0)))]) [0, 14, 87, 88] (by decide) rfl
  refine lv_aload_n hx hb dL_law_1990 rfl (lv_at hl 2 rfl) ?_
  refine lv_aload_n hx hb dL_law_1991 rfl (lv_at hl 3 rfl) ?_
  refine lv_iload_n hx hb dL_law_1992 rfl (lv_at hl 0 rfl) ?_
  refine lv_iconst (v := 1) hx hb dL_law_1993 (by decide) ?_
  refine lv_iadd hx hb dL_law_1994 ?_
  refine lv_topi (fun x_1 ex_1 => ?_)
  obtain rfl : x_1 = 1 := ex_1.trans (by decide)
  refine va_sld hx hb hX hbl hbA hS (L := 6) (by unfold vp_in; decide) dL_law_1995 ?_
  refine W.eq (g2 := F0 m 1996 ls [.int (xs 1), .ref qx]) rfl ?_
  refine lv_aload_n hx hb dL_law_1996 rfl (lv_at hl 3 rfl) ?_
  refine lv_iload_n hx hb dL_law_1997 rfl (lv_at hl 0 rfl) ?_
  refine lv_iconst (v := 2) hx hb dL_law_1998 (by decide) ?_
  refine lv_iadd hx hb dL_law_1999 ?_
  refine lv_topi (fun x_2 ex_2 => ?_)
  obtain rfl : x_2 = 2 := ex_2.trans (by decide)
  refine va_sld hx hb hX hbl hbA hS (L := 6) (by unfold vp_in; decide) dL_law_2000 ?_
  refine W.eq (g2 := F0 m 2001 ls [.int (xs 2), .int (xs 1), .ref qx]) rfl ?_
  refine cpVi (rest := []) ⟨hx, hb, hml, hown, hts⟩ hKN (hP.sub (ws' := [(qx, .inr (11, [.ref (u.1 0), .ref (u.1 2), .ref (u.1 13), .ref (u.1 22), .ref (u.1 26), .ref (u.1 69), .ref (u.1 73), .ref (u.1 74), .ref (u.1 77), .ref (u.1 79), .ref (u.1 83)])), ((u.1 13), .inr (3, [.int 0, .int 0, .int 0, .int 0, .int 0, .int 0, .int 0, .int 0, .ref (u.1 14), .ref (u.1 15), .ref (u.1 16), .ref (u.1 17), .ref (u.1 18), .ref (u.1 19), .ref (u.1 20), .ref (u.1 21)]))]) [0, 1] rfl) (k_X11_grip l D cA qx (u.1 0) (u.1 2) (u.1 13) (u.1 22) (u.1 26) (u.1 69) (u.1 73) (u.1 74) (u.1 77) (u.1 79) (u.1 83) (u.1 14) (u.1 15) (u.1 16) (u.1 17) (u.1 18) (u.1 19) (u.1 20) (u.1 21) (xs 1) (xs 2)) (tb_V tw_1351 tw_1352 tw_1353 tw_101 tw_1354) hdX11_grip ⟨rfl, rfl, Nat.le_of_ble_eq_true rfl, Nat.le_of_ble_eq_true rfl⟩ ⟨Nat.le_of_ble_eq_true rfl, Nat.le_of_ble_eq_true rfl⟩ rfl rfl rfl hl.1 rfl (Nat.le_of_ble_eq_true rfl) dL_law_2001 (fun r_3 hr_3 => ?_)
  obtain rfl : r_3 = (-2) := hr_3
  refine lv_aload_n hx hb dL_law_2004 rfl (lv_at hl 1 rfl) ?_
  refine lv_aload_n hx hb dL_law_2005 rfl (lv_at hl 3 rfl) ?_
  refine lv_iload_n hx hb dL_law_2006 rfl (lv_at hl 0 rfl) ?_
  refine lv_iconst (v := 1) hx hb dL_law_2007 (by decide) ?_
  refine lv_iadd hx hb dL_law_2008 ?_
  refine lv_topi (fun x_4 ex_4 => ?_)
  obtain rfl : x_4 = 1 := ex_4.trans (by decide)
  refine va_sld hx hb hX hbl hbA hS (L := 6) (by unfold vp_in; decide) dL_law_2009 ?_
  refine W.eq (g2 := F0 m 2010 ls [.int (xs 1), .ref qm, .int (-2)]) rfl ?_
  refine lv_aload_n hx hb dL_law_2010 rfl (lv_at hl 3 rfl) ?_
  refine lv_iload_n hx hb dL_law_2011 rfl (lv_at hl 0 rfl) ?_
  refine lv_iconst (v := 2) hx hb dL_law_2012 (by decide) ?_
  refine lv_iadd hx hb dL_law_2013 ?_
  refine lv_topi (fun x_5 ex_5 => ?_)
  obtain rfl : x_5 = 2 := ex_5.trans (by decide)
  refine va_sld hx hb hX hbl hbA hS (L := 6) (by unfold vp_in; decide) dL_law_2014 ?_
  refine W.eq (g2 := F0 m 2015 ls [.int (xs 2), .int (xs 1), .ref qm, .int (-2)]) rfl ?_
  refine cpVi (rest := [.int (-2)]) ⟨hx, hb, hml, hown, hts⟩ hKN (hP.sub (ws' := [(qm, .inr (12, [.int 0, .ref (v.1 0), .ref (v.1 1), .ref (v.1 2), .ref (v.1 3), .int 0, .ref (v.1 4), .int 0, .int 0, .int 0, .int 0, .int 0, .int 0, .int (-1), .ref (v.1 5), .int 0, .int 0, .int 0, .int 0, .int 0, .int 0, .ref (v.1 6), .ref (v.1 7), .ref (v.1 8), .ref (v.1 9), .int 0, .int 0, .ref (v.1 10), .int 0, .ref (v.1 11), .int 0, .ref (v.1 12), .ref (v.1 13), .ref (v.1 14), .ref (v.1 15)])), ((v.1 0), .inl (cA 1, 122, .inl (fun _ => 0)))]) [2, 3] rfl) (k_X12_grip l D cA qm (v.1 0) (v.1 1) (v.1 2) (v.1 3) (v.1 4) (v.1 5) (v.1 6) (v.1 7) (v.1 8) (v.1 9) (v.1 10) (v.1 11) (v.1 12) (v.1 13) (v.1 14) (v.1 15) (xs 1) (xs 2)) (tb_V tw_2127 tw_2128 tw_2129 tw_114 tw_2130) hdX12_grip ⟨rfl, rfl, Nat.le_of_ble_eq_true rfl, Nat.le_of_ble_eq_true rfl⟩ ⟨Nat.le_of_ble_eq_true rfl, Nat.le_of_ble_eq_true rfl⟩ rfl rfl rfl hl.1 rfl (Nat.le_of_ble_eq_true rfl) dL_law_2015 (fun r_6 hr_6 => ?_)
  obtain rfl : r_6 = (-2) := hr_6
  refine lv_icmp_eq (tgt := 2271) hx hb dL_law_2018 (by decide) (fun c_7 => ?_) (fun c_7 => absurd (by decide) c_7)
  exact lawEnd l C0 hS (Nat.le_of_ble_eq_true rfl) (Nat.le_of_ble_eq_true rfl) (lv_sub hl [0, 1, 2, 3] rfl)
set_option maxHeartbeats 4000000 in
set_option maxRecDepth 100000 in
theorem law_c67 {p : Program} {e : Env} {s : State} {m : MethodId} {below : List Frame} {meth : Method} {c : Code} (l : Launch) {b : Nat} {xs : Nat → Int32} (C0 : lw_At p s m meth c b 6 xs) (D : va_G) (cA : Nat → ClassId) (hKN : KN D cA s) {H : Heap} {locs : List Loc} {ls : Array Slot} (qx qm : Nat) (u v : SU) (hP : va_P D vwCl (wXM cA qx qm u v) H) (hD : va_D (fun q : Nat => s.heap.size ≤ q) (wXM cA qx qm u v)) (hS : va_S (fun q : Nat => s.heap.size ≤ q) s.heap H locs) (hl : lv_has ls 4 [(3, .int 0), (2, .ref qm), (1, .ref qx), (0, .ref b)]) : W p l e room_1 s m #[Value.ref b] below meth c H locs 104 9712 (lw_Z below #[Value.ref b] s) (F0 m 2023 ls []) := by
  obtain ⟨hx, hb, hr, hml, hown, hts0, hX, hbl, hlocks, hgv⟩ := id C0
  have hts : ∀ w ∈ TB, w.before _ s = true := fun w h => hts0 w (List.mem_filter.mp h).1
  have hb : c.code = cL_law := hb
  have hown : s.vm.findClass "WristTreatyLaw" = some m.cls := hown
  have hA : ∀ q : Nat, s.heap.size ≤ q → (fun q : Nat => s.heap.size ≤ q) q := fun _ h => h
  have hbA : ¬ (fun q : Nat => s.heap.size ≤ q) b := Nat.not_le.mpr hbl
  have hP := hP.sub (ws' := [(qx, .inr (11, [.ref (u.1 0), .ref (u.1 2), .ref (u.1 13), .ref (u.1 22), .ref (u.1 26), .ref (u.1 69), .ref (u.1 73), .ref (u.1 74), .ref (u.1 77), .ref (u.1 79), .ref (u.1 83)])), ((u.1 0), .inr (9, [.ref (u.1 1), .int 0])), ((u.1 13), .inr (3, [.int 0, .int 0, .int 0, .int 0, .int 0, .int 0, .int 0, .int 0, .ref (u.1 14), .ref (u.1 15), .ref (u.1 16), .ref (u.1 17), .ref (u.1 18), .ref (u.1 19), .ref (u.1 20), .ref (u.1 21)])), ((u.1 22), .inr (2, [.int (-1), .int (-1), .int 0, .int 0, .int 0, .int 0, .int 0, .ref (u.1 23), .ref (u.1 24), .ref (u.1 25)])), ((u.1 69), .inr (7, [.ref (u.1 72), .ref (u.1 70), .ref (u.1 71)])), ((u.1 72), .inl (cA 1, 4, .inl (fun _ => (-1)))), (qm, .inr (12, [.int 0, .ref (v.1 0), .ref (v.1 1), .ref (v.1 2), .ref (v.1 3), .int 0, .ref (v.1 4), .int 0, .int 0, .int 0, .int 0, .int 0, .int 0, .int (-1), .ref (v.1 5), .int 0, .int 0, .int 0, .int 0, .int 0, .int 0, .ref (v.1 6), .ref (v.1 7), .ref (v.1 8), .ref (v.1 9), .int 0, .int 0, .ref (v.1 10), .int 0, .ref (v.1 11), .int 0, .ref (v.1 12), .ref (v.1 13), .ref (v.1 14), .ref (v.1 15)])), ((v.1 0), .inl (cA 1, 122, .inl (fun _ => 0))), ((v.1 12), .inl (cA 1, 4, .inl (fun _ => (-1))))]) [0, 1, 14, 23, 70, 73, 87, 88, 100] rfl
  have hD := hD.sub (ws' := [(qx, .inr (11, [.ref (u.1 0), .ref (u.1 2), .ref (u.1 13), .ref (u.1 22), .ref (u.1 26), .ref (u.1 69), .ref (u.1 73), .ref (u.1 74), .ref (u.1 77), .ref (u.1 79), .ref (u.1 83)])), ((u.1 0), .inr (9, [.ref (u.1 1), .int 0])), ((u.1 13), .inr (3, [.int 0, .int 0, .int 0, .int 0, .int 0, .int 0, .int 0, .int 0, .ref (u.1 14), .ref (u.1 15), .ref (u.1 16), .ref (u.1 17), .ref (u.1 18), .ref (u.1 19), .ref (u.1 20), .ref (u.1 21)])), ((u.1 22), .inr (2, [.int (-1), .int (-1), .int 0, .int 0, .int 0, .int 0, .int 0, .ref (u.1 23), .ref (u.1 24), .ref (u.1 25)])), ((u.1 69), .inr (7, [.ref (u.1 72), .ref (u.1 70), .ref (u.1 71)])), ((u.1 72), .inl (cA 1, 4, .inl (fun _ => (-1)))), (qm, .inr (12, [.int 0, .ref (v.1 0), .ref (v.1 1), .ref (v.1 2), .ref (v.1 3), .int 0, .ref (v.1 4), .int 0, .int 0, .int 0, .int 0, .int 0, .int 0, .int (-1), .ref (v.1 5), .int 0, .int 0, .int 0, .int 0, .int 0, .int 0, .ref (v.1 6), .ref (v.1 7), .ref (v.1 8), .ref (v.1 9), .int 0, .int 0, .ref (v.1 10), .int 0, .ref (v.1 11), .int 0, .ref (v.1 12), .ref (v.1 13), .ref (v.1 14), .ref (v.1 15)])), ((v.1 0), .inl (cA 1, 122, .inl (fun _ => 0))), ((v.1 12), .inl (cA 1, 4, .inl (fun _ => (-1))))]) [0, 1, 14, 23, 70, 73, 87, 88, 100] (by decide) rfl
  refine lv_aload_n hx hb dL_law_2023 rfl (lv_at hl 2 rfl) ?_
  refine lv_aload_n hx hb dL_law_2024 rfl (lv_at hl 3 rfl) ?_
  refine lv_iload_n hx hb dL_law_2025 rfl (lv_at hl 0 rfl) ?_
  refine lv_iconst (v := 1) hx hb dL_law_2026 (by decide) ?_
  refine lv_iadd hx hb dL_law_2027 ?_
  refine lv_topi (fun x_1 ex_1 => ?_)
  obtain rfl : x_1 = 1 := ex_1.trans (by decide)
  refine va_sld hx hb hX hbl hbA hS (L := 6) (by unfold vp_in; decide) dL_law_2028 ?_
  refine W.eq (g2 := F0 m 2029 ls [.int (xs 1), .ref qx]) rfl ?_
  refine cpVi (rest := []) ⟨hx, hb, hml, hown, hts⟩ hKN (hP.sub (ws' := [(qx, .inr (11, [.ref (u.1 0), .ref (u.1 2), .ref (u.1 13), .ref (u.1 22), .ref (u.1 26), .ref (u.1 69), .ref (u.1 73), .ref (u.1 74), .ref (u.1 77), .ref (u.1 79), .ref (u.1 83)])), ((u.1 13), .inr (3, [.int 0, .int 0, .int 0, .int 0, .int 0, .int 0, .int 0, .int 0, .ref (u.1 14), .ref (u.1 15), .ref (u.1 16), .ref (u.1 17), .ref (u.1 18), .ref (u.1 19), .ref (u.1 20), .ref (u.1 21)])), ((u.1 69), .inr (7, [.ref (u.1 72), .ref (u.1 70), .ref (u.1 71)])), ((u.1 72), .inl (cA 1, 4, .inl (fun _ => (-1)))), ((u.1 0), .inr (9, [.ref (u.1 1), .int 0])), ((u.1 22), .inr (2, [.int (-1), .int (-1), .int 0, .int 0, .int 0, .int 0, .int 0, .ref (u.1 23), .ref (u.1 24), .ref (u.1 25)]))]) [0, 2, 4, 5, 1, 3] rfl) (k_X11_count l D cA qx (u.1 0) (u.1 2) (u.1 13) (u.1 22) (u.1 26) (u.1 69) (u.1 73) (u.1 74) (u.1 77) (u.1 79) (u.1 83) (u.1 14) (u.1 15) (u.1 16) (u.1 17) (u.1 18) (u.1 19) (u.1 20) (u.1 21) (u.1 72) (u.1 70) (u.1 71) (u.1 1) (u.1 23) (u.1 24) (u.1 25) (xs 1)) (tb_V tw_1359 tw_1360 tw_1361 tw_101 tw_1362) hdX11_count ⟨rfl, rfl, Nat.le_of_ble_eq_true rfl, Nat.le_of_ble_eq_true rfl⟩ ⟨Nat.le_of_ble_eq_true rfl, Nat.le_of_ble_eq_true rfl⟩ rfl rfl rfl hl.1 rfl (Nat.le_of_ble_eq_true rfl) dL_law_2029 (fun r_2 hr_2 => ?_)
  rcases hr_2 with ⟨k_2_0, rfl⟩ | ⟨k_2_1, rfl⟩
  · skip
    refine lv_aload_n hx hb dL_law_2032 rfl (lv_at hl 1 rfl) ?_
    refine lv_aload_n hx hb dL_law_2033 rfl (lv_at hl 3 rfl) ?_
    refine lv_iload_n hx hb dL_law_2034 rfl (lv_at hl 0 rfl) ?_
    refine lv_iconst (v := 1) hx hb dL_law_2035 (by decide) ?_
    refine lv_iadd hx hb dL_law_2036 ?_
    refine lv_topi (fun x_3 ex_3 => ?_)
    obtain rfl : x_3 = 1 := ex_3.trans (by decide)
    refine va_sld hx hb hX hbl hbA hS (L := 6) (by unfold vp_in; decide) dL_law_2037 ?_
    refine W.eq (g2 := F0 m 2038 ls [.int (xs 1), .ref qm, .int 0]) rfl ?_
    refine cpVi (rest := [.int 0]) ⟨hx, hb, hml, hown, hts⟩ hKN (hP.sub (ws' := [(qm, .inr (12, [.int 0, .ref (v.1 0), .ref (v.1 1), .ref (v.1 2), .ref (v.1 3), .int 0, .ref (v.1 4), .int 0, .int 0, .int 0, .int 0, .int 0, .int 0, .int (-1), .ref (v.1 5), .int 0, .int 0, .int 0, .int 0, .int 0, .int 0, .ref (v.1 6), .ref (v.1 7), .ref (v.1 8), .ref (v.1 9), .int 0, .int 0, .ref (v.1 10), .int 0, .ref (v.1 11), .int 0, .ref (v.1 12), .ref (v.1 13), .ref (v.1 14), .ref (v.1 15)])), ((v.1 0), .inl (cA 1, 122, .inl (fun _ => 0))), ((v.1 12), .inl (cA 1, 4, .inl (fun _ => (-1))))]) [6, 7, 8] rfl) (k_X12_count l D cA qm (v.1 0) (v.1 1) (v.1 2) (v.1 3) (v.1 4) (v.1 5) (v.1 6) (v.1 7) (v.1 8) (v.1 9) (v.1 10) (v.1 11) (v.1 12) (v.1 13) (v.1 14) (v.1 15) (xs 1)) (tb_V tw_2132 tw_2133 tw_2134 tw_114 tw_2135) hdX12_count ⟨rfl, rfl, Nat.le_of_ble_eq_true rfl, Nat.le_of_ble_eq_true rfl⟩ ⟨Nat.le_of_ble_eq_true rfl, Nat.le_of_ble_eq_true rfl⟩ rfl rfl rfl hl.1 rfl (Nat.le_of_ble_eq_true rfl) dL_law_2038 (fun r_4 hr_4 => ?_)
    rcases hr_4 with ⟨k_4_0, rfl⟩ | ⟨k_4_1, rfl⟩
    · skip
      refine lv_icmp_eq (tgt := 2271) hx hb dL_law_2041 (by decide) (fun c_5 => ?_) (fun c_5 => absurd (by decide) c_5)
      exact lawEnd l C0 hS (Nat.le_of_ble_eq_true rfl) (Nat.le_of_ble_eq_true rfl) (lv_sub hl [0, 1, 2, 3] rfl)
    · skip
      exfalso
      omega
  · skip
    refine lv_aload_n hx hb dL_law_2032 rfl (lv_at hl 1 rfl) ?_
    refine lv_aload_n hx hb dL_law_2033 rfl (lv_at hl 3 rfl) ?_
    refine lv_iload_n hx hb dL_law_2034 rfl (lv_at hl 0 rfl) ?_
    refine lv_iconst (v := 1) hx hb dL_law_2035 (by decide) ?_
    refine lv_iadd hx hb dL_law_2036 ?_
    refine lv_topi (fun x_6 ex_6 => ?_)
    obtain rfl : x_6 = 1 := ex_6.trans (by decide)
    refine va_sld hx hb hX hbl hbA hS (L := 6) (by unfold vp_in; decide) dL_law_2037 ?_
    refine W.eq (g2 := F0 m 2038 ls [.int (xs 1), .ref qm, .int (-1)]) rfl ?_
    refine cpVi (rest := [.int (-1)]) ⟨hx, hb, hml, hown, hts⟩ hKN (hP.sub (ws' := [(qm, .inr (12, [.int 0, .ref (v.1 0), .ref (v.1 1), .ref (v.1 2), .ref (v.1 3), .int 0, .ref (v.1 4), .int 0, .int 0, .int 0, .int 0, .int 0, .int 0, .int (-1), .ref (v.1 5), .int 0, .int 0, .int 0, .int 0, .int 0, .int 0, .ref (v.1 6), .ref (v.1 7), .ref (v.1 8), .ref (v.1 9), .int 0, .int 0, .ref (v.1 10), .int 0, .ref (v.1 11), .int 0, .ref (v.1 12), .ref (v.1 13), .ref (v.1 14), .ref (v.1 15)])), ((v.1 0), .inl (cA 1, 122, .inl (fun _ => 0))), ((v.1 12), .inl (cA 1, 4, .inl (fun _ => (-1))))]) [6, 7, 8] rfl) (k_X12_count l D cA qm (v.1 0) (v.1 1) (v.1 2) (v.1 3) (v.1 4) (v.1 5) (v.1 6) (v.1 7) (v.1 8) (v.1 9) (v.1 10) (v.1 11) (v.1 12) (v.1 13) (v.1 14) (v.1 15) (xs 1)) (tb_V tw_2132 tw_2133 tw_2134 tw_114 tw_2135) hdX12_count ⟨rfl, rfl, Nat.le_of_ble_eq_true rfl, Nat.le_of_ble_eq_true rfl⟩ ⟨Nat.le_of_ble_eq_true rfl, Nat.le_of_ble_eq_true rfl⟩ rfl rfl rfl hl.1 rfl (Nat.le_of_ble_eq_true rfl) dL_law_2038 (fun r_7 hr_7 => ?_)
    rcases hr_7 with ⟨k_7_0, rfl⟩ | ⟨k_7_1, rfl⟩
    · skip
      exfalso
      omega
    · skip
      refine lv_icmp_eq (tgt := 2271) hx hb dL_law_2041 (by decide) (fun c_8 => ?_) (fun c_8 => absurd (by decide) c_8)
      exact lawEnd l C0 hS (Nat.le_of_ble_eq_true rfl) (Nat.le_of_ble_eq_true rfl) (lv_sub hl [0, 1, 2, 3] rfl)
set_option maxHeartbeats 4000000 in
set_option maxRecDepth 100000 in
theorem law_c68 {p : Program} {e : Env} {s : State} {m : MethodId} {below : List Frame} {meth : Method} {c : Code} (l : Launch) {b : Nat} {xs : Nat → Int32} (C0 : lw_At p s m meth c b 6 xs) (D : va_G) (cA : Nat → ClassId) (hKN : KN D cA s) {H : Heap} {locs : List Loc} {ls : Array Slot} (qx qm : Nat) (u v : SU) (hP : va_P D vwCl (wXM cA qx qm u v) H) (hD : va_D (fun q : Nat => s.heap.size ≤ q) (wXM cA qx qm u v)) (hS : va_S (fun q : Nat => s.heap.size ≤ q) s.heap H locs) (hl : lv_has ls 4 [(3, .int 0), (2, .ref qm), (1, .ref qx), (0, .ref b)]) : W p l e room_1 s m #[Value.ref b] below meth c H locs 104 9712 (lw_Z below #[Value.ref b] s) (F0 m 2046 ls []) := by
  obtain ⟨hx, hb, hr, hml, hown, hts0, hX, hbl, hlocks, hgv⟩ := id C0
  have hts : ∀ w ∈ TB, w.before _ s = true := fun w h => hts0 w (List.mem_filter.mp h).1
  have hb : c.code = cL_law := hb
  have hown : s.vm.findClass "WristTreatyLaw" = some m.cls := hown
  have hA : ∀ q : Nat, s.heap.size ≤ q → (fun q : Nat => s.heap.size ≤ q) q := fun _ h => h
  have hbA : ¬ (fun q : Nat => s.heap.size ≤ q) b := Nat.not_le.mpr hbl
  have hP := hP.sub (ws' := [(qx, .inr (11, [.ref (u.1 0), .ref (u.1 2), .ref (u.1 13), .ref (u.1 22), .ref (u.1 26), .ref (u.1 69), .ref (u.1 73), .ref (u.1 74), .ref (u.1 77), .ref (u.1 79), .ref (u.1 83)])), ((u.1 13), .inr (3, [.int 0, .int 0, .int 0, .int 0, .int 0, .int 0, .int 0, .int 0, .ref (u.1 14), .ref (u.1 15), .ref (u.1 16), .ref (u.1 17), .ref (u.1 18), .ref (u.1 19), .ref (u.1 20), .ref (u.1 21)])), ((u.1 14), .inl (cA 1, 8, .inl (fun _ => 0))), ((u.1 15), .inl (cA 1, 8, .inl (fun _ => 0))), ((u.1 16), .inl (cA 1, 8, .inl (fun _ => 0))), ((u.1 17), .inl (cA 1, 7, .inl (fun _ => 0))), ((u.1 18), .inl (cA 1, 7, .inl (fun _ => 0))), ((u.1 19), .inl (cA 1, 7, .inl (fun _ => 0))), ((u.1 20), .inl (cA 1, 4, .inl (fun _ => 0))), ((u.1 21), .inl (cA 1, 4, .inl (fun _ => 0))), ((u.1 22), .inr (2, [.int (-1), .int (-1), .int 0, .int 0, .int 0, .int 0, .int 0, .ref (u.1 23), .ref (u.1 24), .ref (u.1 25)])), ((u.1 23), .inl (cA 1, 60, .inl (fun _ => 0))), ((u.1 24), .inl (cA 1, 60, .inl (fun _ => 0))), ((u.1 25), .inl (cA 1, 60, .inl (fun _ => 0))), ((u.1 26), .inl (cA 4, 3, .inr (.inr (.inr (.inr (selO [(u.1 27), (u.1 41), (u.1 55)])))))), ((u.1 27), .inr (4, [.ref (u.1 28), .ref (u.1 37), .int 0])), ((u.1 28), .inr (3, [.int 0, .int 0, .int 0, .int 0, .int 0, .int 0, .int 0, .int 0, .ref (u.1 29), .ref (u.1 30), .ref (u.1 31), .ref (u.1 32), .ref (u.1 33), .ref (u.1 34), .ref (u.1 35), .ref (u.1 36)])), ((u.1 29), .inl (cA 1, 8, .inl (fun _ => 0))), ((u.1 30), .inl (cA 1, 8, .inl (fun _ => 0))), ((u.1 31), .inl (cA 1, 8, .inl (fun _ => 0))), ((u.1 32), .inl (cA 1, 7, .inl (fun _ => 0))), ((u.1 33), .inl (cA 1, 7, .inl (fun _ => 0))), ((u.1 34), .inl (cA 1, 7, .inl (fun _ => 0))), ((u.1 35), .inl (cA 1, 4, .inl (fun _ => 0))), ((u.1 36), .inl (cA 1, 4, .inl (fun _ => 0))), ((u.1 37), .inr (2, [.int (-1), .int (-1), .int 0, .int 0, .int 0, .int 0, .int 0, .ref (u.1 38), .ref (u.1 39), .ref (u.1 40)])), ((u.1 38), .inl (cA 1, 60, .inl (fun _ => 0))), ((u.1 39), .inl (cA 1, 60, .inl (fun _ => 0))), ((u.1 40), .inl (cA 1, 60, .inl (fun _ => 0))), ((u.1 41), .inr (4, [.ref (u.1 42), .ref (u.1 51), .int 0])), ((u.1 42), .inr (3, [.int 0, .int 0, .int 0, .int 0, .int 0, .int 0, .int 0, .int 0, .ref (u.1 43), .ref (u.1 44), .ref (u.1 45), .ref (u.1 46), .ref (u.1 47), .ref (u.1 48), .ref (u.1 49), .ref (u.1 50)])), ((u.1 43), .inl (cA 1, 8, .inl (fun _ => 0))), ((u.1 44), .inl (cA 1, 8, .inl (fun _ => 0))), ((u.1 45), .inl (cA 1, 8, .inl (fun _ => 0))), ((u.1 46), .inl (cA 1, 7, .inl (fun _ => 0))), ((u.1 47), .inl (cA 1, 7, .inl (fun _ => 0))), ((u.1 48), .inl (cA 1, 7, .inl (fun _ => 0))), ((u.1 49), .inl (cA 1, 4, .inl (fun _ => 0))), ((u.1 50), .inl (cA 1, 4, .inl (fun _ => 0))), ((u.1 51), .inr (2, [.int (-1), .int (-1), .int 0, .int 0, .int 0, .int 0, .int 0, .ref (u.1 52), .ref (u.1 53), .ref (u.1 54)])), ((u.1 52), .inl (cA 1, 60, .inl (fun _ => 0))), ((u.1 53), .inl (cA 1, 60, .inl (fun _ => 0))), ((u.1 54), .inl (cA 1, 60, .inl (fun _ => 0))), ((u.1 55), .inr (4, [.ref (u.1 56), .ref (u.1 65), .int 0])), ((u.1 56), .inr (3, [.int 0, .int 0, .int 0, .int 0, .int 0, .int 0, .int 0, .int 0, .ref (u.1 57), .ref (u.1 58), .ref (u.1 59), .ref (u.1 60), .ref (u.1 61), .ref (u.1 62), .ref (u.1 63), .ref (u.1 64)])), ((u.1 57), .inl (cA 1, 8, .inl (fun _ => 0))), ((u.1 58), .inl (cA 1, 8, .inl (fun _ => 0))), ((u.1 59), .inl (cA 1, 8, .inl (fun _ => 0))), ((u.1 60), .inl (cA 1, 7, .inl (fun _ => 0))), ((u.1 61), .inl (cA 1, 7, .inl (fun _ => 0))), ((u.1 62), .inl (cA 1, 7, .inl (fun _ => 0))), ((u.1 63), .inl (cA 1, 4, .inl (fun _ => 0))), ((u.1 64), .inl (cA 1, 4, .inl (fun _ => 0))), ((u.1 65), .inr (2, [.int (-1), .int (-1), .int 0, .int 0, .int 0, .int 0, .int 0, .ref (u.1 66), .ref (u.1 67), .ref (u.1 68)])), ((u.1 66), .inl (cA 1, 60, .inl (fun _ => 0))), ((u.1 67), .inl (cA 1, 60, .inl (fun _ => 0))), ((u.1 68), .inl (cA 1, 60, .inl (fun _ => 0))), (qm, .inr (12, [.int 0, .ref (v.1 0), .ref (v.1 1), .ref (v.1 2), .ref (v.1 3), .int 0, .ref (v.1 4), .int 0, .int 0, .int 0, .int 0, .int 0, .int 0, .int (-1), .ref (v.1 5), .int 0, .int 0, .int 0, .int 0, .int 0, .int 0, .ref (v.1 6), .ref (v.1 7), .ref (v.1 8), .ref (v.1 9), .int 0, .int 0, .ref (v.1 10), .int 0, .ref (v.1 11), .int 0, .ref (v.1 12), .ref (v.1 13), .ref (v.1 14), .ref (v.1 15)])), ((v.1 0), .inl (cA 1, 122, .inl (fun _ => 0))), ((v.1 1), .inl (cA 1, 366, .inl (fun _ => 0))), ((v.1 2), .inl (cA 3, 3, .inl (fun _ => 0)))]) [0, 14, 15, 16, 17, 18, 19, 20, 21, 22, 23, 24, 25, 26, 27, 28, 29, 30, 31, 32, 33, 34, 35, 36, 37, 38, 39, 40, 41, 42, 43, 44, 45, 46, 47, 48, 49, 50, 51, 52, 53, 54, 55, 56, 57, 58, 59, 60, 61, 62, 63, 64, 65, 66, 67, 68, 69, 87, 88, 89, 90] rfl
  have hD := hD.sub (ws' := [(qx, .inr (11, [.ref (u.1 0), .ref (u.1 2), .ref (u.1 13), .ref (u.1 22), .ref (u.1 26), .ref (u.1 69), .ref (u.1 73), .ref (u.1 74), .ref (u.1 77), .ref (u.1 79), .ref (u.1 83)])), ((u.1 13), .inr (3, [.int 0, .int 0, .int 0, .int 0, .int 0, .int 0, .int 0, .int 0, .ref (u.1 14), .ref (u.1 15), .ref (u.1 16), .ref (u.1 17), .ref (u.1 18), .ref (u.1 19), .ref (u.1 20), .ref (u.1 21)])), ((u.1 14), .inl (cA 1, 8, .inl (fun _ => 0))), ((u.1 15), .inl (cA 1, 8, .inl (fun _ => 0))), ((u.1 16), .inl (cA 1, 8, .inl (fun _ => 0))), ((u.1 17), .inl (cA 1, 7, .inl (fun _ => 0))), ((u.1 18), .inl (cA 1, 7, .inl (fun _ => 0))), ((u.1 19), .inl (cA 1, 7, .inl (fun _ => 0))), ((u.1 20), .inl (cA 1, 4, .inl (fun _ => 0))), ((u.1 21), .inl (cA 1, 4, .inl (fun _ => 0))), ((u.1 22), .inr (2, [.int (-1), .int (-1), .int 0, .int 0, .int 0, .int 0, .int 0, .ref (u.1 23), .ref (u.1 24), .ref (u.1 25)])), ((u.1 23), .inl (cA 1, 60, .inl (fun _ => 0))), ((u.1 24), .inl (cA 1, 60, .inl (fun _ => 0))), ((u.1 25), .inl (cA 1, 60, .inl (fun _ => 0))), ((u.1 26), .inl (cA 4, 3, .inr (.inr (.inr (.inr (selO [(u.1 27), (u.1 41), (u.1 55)])))))), ((u.1 27), .inr (4, [.ref (u.1 28), .ref (u.1 37), .int 0])), ((u.1 28), .inr (3, [.int 0, .int 0, .int 0, .int 0, .int 0, .int 0, .int 0, .int 0, .ref (u.1 29), .ref (u.1 30), .ref (u.1 31), .ref (u.1 32), .ref (u.1 33), .ref (u.1 34), .ref (u.1 35), .ref (u.1 36)])), ((u.1 29), .inl (cA 1, 8, .inl (fun _ => 0))), ((u.1 30), .inl (cA 1, 8, .inl (fun _ => 0))), ((u.1 31), .inl (cA 1, 8, .inl (fun _ => 0))), ((u.1 32), .inl (cA 1, 7, .inl (fun _ => 0))), ((u.1 33), .inl (cA 1, 7, .inl (fun _ => 0))), ((u.1 34), .inl (cA 1, 7, .inl (fun _ => 0))), ((u.1 35), .inl (cA 1, 4, .inl (fun _ => 0))), ((u.1 36), .inl (cA 1, 4, .inl (fun _ => 0))), ((u.1 37), .inr (2, [.int (-1), .int (-1), .int 0, .int 0, .int 0, .int 0, .int 0, .ref (u.1 38), .ref (u.1 39), .ref (u.1 40)])), ((u.1 38), .inl (cA 1, 60, .inl (fun _ => 0))), ((u.1 39), .inl (cA 1, 60, .inl (fun _ => 0))), ((u.1 40), .inl (cA 1, 60, .inl (fun _ => 0))), ((u.1 41), .inr (4, [.ref (u.1 42), .ref (u.1 51), .int 0])), ((u.1 42), .inr (3, [.int 0, .int 0, .int 0, .int 0, .int 0, .int 0, .int 0, .int 0, .ref (u.1 43), .ref (u.1 44), .ref (u.1 45), .ref (u.1 46), .ref (u.1 47), .ref (u.1 48), .ref (u.1 49), .ref (u.1 50)])), ((u.1 43), .inl (cA 1, 8, .inl (fun _ => 0))), ((u.1 44), .inl (cA 1, 8, .inl (fun _ => 0))), ((u.1 45), .inl (cA 1, 8, .inl (fun _ => 0))), ((u.1 46), .inl (cA 1, 7, .inl (fun _ => 0))), ((u.1 47), .inl (cA 1, 7, .inl (fun _ => 0))), ((u.1 48), .inl (cA 1, 7, .inl (fun _ => 0))), ((u.1 49), .inl (cA 1, 4, .inl (fun _ => 0))), ((u.1 50), .inl (cA 1, 4, .inl (fun _ => 0))), ((u.1 51), .inr (2, [.int (-1), .int (-1), .int 0, .int 0, .int 0, .int 0, .int 0, .ref (u.1 52), .ref (u.1 53), .ref (u.1 54)])), ((u.1 52), .inl (cA 1, 60, .inl (fun _ => 0))), ((u.1 53), .inl (cA 1, 60, .inl (fun _ => 0))), ((u.1 54), .inl (cA 1, 60, .inl (fun _ => 0))), ((u.1 55), .inr (4, [.ref (u.1 56), .ref (u.1 65), .int 0])), ((u.1 56), .inr (3, [.int 0, .int 0, .int 0, .int 0, .int 0, .int 0, .int 0, .int 0, .ref (u.1 57), .ref (u.1 58), .ref (u.1 59), .ref (u.1 60), .ref (u.1 61), .ref (u.1 62), .ref (u.1 63), .ref (u.1 64)])), ((u.1 57), .inl (cA 1, 8, .inl (fun _ => 0))), ((u.1 58), .inl (cA 1, 8, .inl (fun _ => 0))), ((u.1 59), .inl (cA 1, 8, .inl (fun _ => 0))), ((u.1 60), .inl (cA 1, 7, .inl (fun _ => 0))), ((u.1 61), .inl (cA 1, 7, .inl (fun _ => 0))), ((u.1 62), .inl (cA 1, 7, .inl (fun _ => 0))), ((u.1 63), .inl (cA 1, 4, .inl (fun _ => 0))), ((u.1 64), .inl (cA 1, 4, .inl (fun _ => 0))), ((u.1 65), .inr (2, [.int (-1), .int (-1), .int 0, .int 0, .int 0, .int 0, .int 0, .ref (u.1 66), .ref (u.1 67), .ref (u.1 68)])), ((u.1 66), .inl (cA 1, 60, .inl (fun _ => 0))), ((u.1 67), .inl (cA 1, 60, .inl (fun _ => 0))), ((u.1 68), .inl (cA 1, 60, .inl (fun _ => 0))), (qm, .inr (12, [.int 0, .ref (v.1 0), .ref (v.1 1), .ref (v.1 2), .ref (v.1 3), .int 0, .ref (v.1 4), .int 0, .int 0, .int 0, .int 0, .int 0, .int 0, .int (-1), .ref (v.1 5), .int 0, .int 0, .int 0, .int 0, .int 0, .int 0, .ref (v.1 6), .ref (v.1 7), .ref (v.1 8), .ref (v.1 9), .int 0, .int 0, .ref (v.1 10), .int 0, .ref (v.1 11), .int 0, .ref (v.1 12), .ref (v.1 13), .ref (v.1 14), .ref (v.1 15)])), ((v.1 0), .inl (cA 1, 122, .inl (fun _ => 0))), ((v.1 1), .inl (cA 1, 366, .inl (fun _ => 0))), ((v.1 2), .inl (cA 3, 3, .inl (fun _ => 0)))]) [0, 14, 15, 16, 17, 18, 19, 20, 21, 22, 23, 24, 25, 26, 27, 28, 29, 30, 31, 32, 33, 34, 35, 36, 37, 38, 39, 40, 41, 42, 43, 44, 45, 46, 47, 48, 49, 50, 51, 52, 53, 54, 55, 56, 57, 58, 59, 60, 61, 62, 63, 64, 65, 66, 67, 68, 69, 87, 88, 89, 90] (by decide) rfl
  refine lv_aload_n hx hb dL_law_2046 rfl (lv_at hl 2 rfl) ?_
  refine lv_aload_n hx hb dL_law_2047 rfl (lv_at hl 3 rfl) ?_
  refine lv_iload_n hx hb dL_law_2048 rfl (lv_at hl 0 rfl) ?_
  refine lv_iconst (v := 1) hx hb dL_law_2049 (by decide) ?_
  refine lv_iadd hx hb dL_law_2050 ?_
  refine lv_topi (fun x_1 ex_1 => ?_)
  obtain rfl : x_1 = 1 := ex_1.trans (by decide)
  refine va_sld hx hb hX hbl hbA hS (L := 6) (by unfold vp_in; decide) dL_law_2051 ?_
  refine W.eq (g2 := F0 m 2052 ls [.int (xs 1), .ref qx]) rfl ?_
  refine cmVi (rest := []) (wsC := [(qx, .inr (11, [.ref (u.1 0), .ref (u.1 2), .ref (u.1 13), .ref (u.1 22), .ref (u.1 26), .ref (u.1 69), .ref (u.1 73), .ref (u.1 74), .ref (u.1 77), .ref (u.1 79), .ref (u.1 83)])), ((u.1 13), .inr (3, [.int 0, .int 0, .int 0, .int 0, .int 0, .int 0, .int 0, .int 0, .ref (u.1 14), .ref (u.1 15), .ref (u.1 16), .ref (u.1 17), .ref (u.1 18), .ref (u.1 19), .ref (u.1 20), .ref (u.1 21)])), ((u.1 22), .inr (2, [.int (-1), .int (-1), .int 0, .int 0, .int 0, .int 0, .int 0, .ref (u.1 23), .ref (u.1 24), .ref (u.1 25)])), ((u.1 26), .inl (cA 4, 3, .inr (.inr (.inr (.inr (selO [(u.1 27), (u.1 41), (u.1 55)])))))), ((u.1 27), .inr (4, [.ref (u.1 28), .ref (u.1 37), .int 0])), ((u.1 41), .inr (4, [.ref (u.1 42), .ref (u.1 51), .int 0])), ((u.1 55), .inr (4, [.ref (u.1 56), .ref (u.1 65), .int 0])), ((u.1 14), .inl (cA 1, 8, .inl (fun _ => 0))), ((u.1 15), .inl (cA 1, 8, .inl (fun _ => 0))), ((u.1 16), .inl (cA 1, 8, .inl (fun _ => 0))), ((u.1 17), .inl (cA 1, 7, .inl (fun _ => 0))), ((u.1 18), .inl (cA 1, 7, .inl (fun _ => 0))), ((u.1 19), .inl (cA 1, 7, .inl (fun _ => 0))), ((u.1 20), .inl (cA 1, 4, .inl (fun _ => 0))), ((u.1 21), .inl (cA 1, 4, .inl (fun _ => 0))), ((u.1 23), .inl (cA 1, 60, .inl (fun _ => 0))), ((u.1 24), .inl (cA 1, 60, .inl (fun _ => 0))), ((u.1 25), .inl (cA 1, 60, .inl (fun _ => 0))), ((u.1 28), .inr (3, [.int 0, .int 0, .int 0, .int 0, .int 0, .int 0, .int 0, .int 0, .ref (u.1 29), .ref (u.1 30), .ref (u.1 31), .ref (u.1 32), .ref (u.1 33), .ref (u.1 34), .ref (u.1 35), .ref (u.1 36)])), ((u.1 37), .inr (2, [.int (-1), .int (-1), .int 0, .int 0, .int 0, .int 0, .int 0, .ref (u.1 38), .ref (u.1 39), .ref (u.1 40)])), ((u.1 29), .inl (cA 1, 8, .inl (fun _ => 0))), ((u.1 30), .inl (cA 1, 8, .inl (fun _ => 0))), ((u.1 31), .inl (cA 1, 8, .inl (fun _ => 0))), ((u.1 32), .inl (cA 1, 7, .inl (fun _ => 0))), ((u.1 33), .inl (cA 1, 7, .inl (fun _ => 0))), ((u.1 34), .inl (cA 1, 7, .inl (fun _ => 0))), ((u.1 35), .inl (cA 1, 4, .inl (fun _ => 0))), ((u.1 36), .inl (cA 1, 4, .inl (fun _ => 0))), ((u.1 38), .inl (cA 1, 60, .inl (fun _ => 0))), ((u.1 39), .inl (cA 1, 60, .inl (fun _ => 0))), ((u.1 40), .inl (cA 1, 60, .inl (fun _ => 0))), ((u.1 42), .inr (3, [.int 0, .int 0, .int 0, .int 0, .int 0, .int 0, .int 0, .int 0, .ref (u.1 43), .ref (u.1 44), .ref (u.1 45), .ref (u.1 46), .ref (u.1 47), .ref (u.1 48), .ref (u.1 49), .ref (u.1 50)])), ((u.1 51), .inr (2, [.int (-1), .int (-1), .int 0, .int 0, .int 0, .int 0, .int 0, .ref (u.1 52), .ref (u.1 53), .ref (u.1 54)])), ((u.1 43), .inl (cA 1, 8, .inl (fun _ => 0))), ((u.1 44), .inl (cA 1, 8, .inl (fun _ => 0))), ((u.1 45), .inl (cA 1, 8, .inl (fun _ => 0))), ((u.1 46), .inl (cA 1, 7, .inl (fun _ => 0))), ((u.1 47), .inl (cA 1, 7, .inl (fun _ => 0))), ((u.1 48), .inl (cA 1, 7, .inl (fun _ => 0))), ((u.1 49), .inl (cA 1, 4, .inl (fun _ => 0))), ((u.1 50), .inl (cA 1, 4, .inl (fun _ => 0))), ((u.1 52), .inl (cA 1, 60, .inl (fun _ => 0))), ((u.1 53), .inl (cA 1, 60, .inl (fun _ => 0))), ((u.1 54), .inl (cA 1, 60, .inl (fun _ => 0))), ((u.1 56), .inr (3, [.int 0, .int 0, .int 0, .int 0, .int 0, .int 0, .int 0, .int 0, .ref (u.1 57), .ref (u.1 58), .ref (u.1 59), .ref (u.1 60), .ref (u.1 61), .ref (u.1 62), .ref (u.1 63), .ref (u.1 64)])), ((u.1 65), .inr (2, [.int (-1), .int (-1), .int 0, .int 0, .int 0, .int 0, .int 0, .ref (u.1 66), .ref (u.1 67), .ref (u.1 68)])), ((u.1 57), .inl (cA 1, 8, .inl (fun _ => 0))), ((u.1 58), .inl (cA 1, 8, .inl (fun _ => 0))), ((u.1 59), .inl (cA 1, 8, .inl (fun _ => 0))), ((u.1 60), .inl (cA 1, 7, .inl (fun _ => 0))), ((u.1 61), .inl (cA 1, 7, .inl (fun _ => 0))), ((u.1 62), .inl (cA 1, 7, .inl (fun _ => 0))), ((u.1 63), .inl (cA 1, 4, .inl (fun _ => 0))), ((u.1 64), .inl (cA 1, 4, .inl (fun _ => 0))), ((u.1 66), .inl (cA 1, 60, .inl (fun _ => 0))), ((u.1 67), .inl (cA 1, 60, .inl (fun _ => 0))), ((u.1 68), .inl (cA 1, 60, .inl (fun _ => 0)))]) (wr := [(qm, .inr (12, [.int 0, .ref (v.1 0), .ref (v.1 1), .ref (v.1 2), .ref (v.1 3), .int 0, .ref (v.1 4), .int 0, .int 0, .int 0, .int 0, .int 0, .int 0, .int (-1), .ref (v.1 5), .int 0, .int 0, .int 0, .int 0, .int 0, .int 0, .ref (v.1 6), .ref (v.1 7), .ref (v.1 8), .ref (v.1 9), .int 0, .int 0, .ref (v.1 10), .int 0, .ref (v.1 11), .int 0, .ref (v.1 12), .ref (v.1 13), .ref (v.1 14), .ref (v.1 15)])), ((v.1 0), .inl (cA 1, 122, .inl (fun _ => 0))), ((v.1 1), .inl (cA 1, 366, .inl (fun _ => 0))), ((v.1 2), .inl (cA 3, 3, .inl (fun _ => 0)))]) ⟨hx, hb, hml, hown, hts⟩ hKN hP hD hS hA [0, 1, 10, 14, 15, 29, 43, 2, 3, 4, 5, 6, 7, 8, 9, 11, 12, 13, 16, 25, 17, 18, 19, 20, 21, 22, 23, 24, 26, 27, 28, 30, 39, 31, 32, 33, 34, 35, 36, 37, 38, 40, 41, 42, 44, 53, 45, 46, 47, 48, 49, 50, 51, 52, 54, 55, 56] [57, 58, 59, 60] rfl rfl (by decide) (by decide) (by decide) (k_X11_image l D cA _ qx (u.1 0) (u.1 2) (u.1 13) (u.1 22) (u.1 26) (u.1 69) (u.1 73) (u.1 74) (u.1 77) (u.1 79) (u.1 83) (u.1 14) (u.1 15) (u.1 16) (u.1 17) (u.1 18) (u.1 19) (u.1 20) (u.1 21) (u.1 23) (u.1 24) (u.1 25) (u.1 27) (u.1 41) (u.1 55) (u.1 28) (u.1 37) (u.1 42) (u.1 51) (u.1 56) (u.1 65) (u.1 29) (u.1 30) (u.1 31) (u.1 32) (u.1 33) (u.1 34) (u.1 35) (u.1 36) (u.1 38) (u.1 39) (u.1 40) (u.1 43) (u.1 44) (u.1 45) (u.1 46) (u.1 47) (u.1 48) (u.1 49) (u.1 50) (u.1 52) (u.1 53) (u.1 54) (u.1 57) (u.1 58) (u.1 59) (u.1 60) (u.1 61) (u.1 62) (u.1 63) (u.1 64) (u.1 66) (u.1 67) (u.1 68) (fun _ => 0) (fun _ => 0) (fun _ => 0) (fun _ => 0) (fun _ => 0) (fun _ => 0) (fun _ => 0) (fun _ => 0) (fun _ => 0) (fun _ => 0) (fun _ => 0) (fun _ => 0) (fun _ => 0) (fun _ => 0) (fun _ => 0) (fun _ => 0) (fun _ => 0) (fun _ => 0) (fun _ => 0) (fun _ => 0) (fun _ => 0) (fun _ => 0) (fun _ => 0) (fun _ => 0) (fun _ => 0) (fun _ => 0) (fun _ => 0) (fun _ => 0) (fun _ => 0) (fun _ => 0) (fun _ => 0) (fun _ => 0) (fun _ => 0) (fun _ => 0) (fun _ => 0) (fun _ => 0) (fun _ => 0) (fun _ => 0) (fun _ => 0) (fun _ => 0) (fun _ => 0) (fun _ => 0) (fun _ => 0) (fun _ => 0) (xs 1)) (tb_V tw_1368 tw_1369 tw_1370 tw_101 tw_1371) hdX11_image ⟨rfl, rfl, Nat.le_of_ble_eq_true rfl, Nat.le_of_ble_eq_true rfl⟩ ⟨Nat.le_of_ble_eq_true rfl, Nat.le_of_ble_eq_true rfl⟩ rfl rfl rfl hl.1 rfl (Nat.le_of_ble_eq_true rfl) dL_law_2052 (fun r_2 u_2 H locs hr_2 hP hD hS => ?_)
  have hP : va_P D vwCl [(qm, .inr (12, [.int 0, .ref (v.1 0), .ref (v.1 1), .ref (v.1 2), .ref (v.1 3), .int 0, .ref (v.1 4), .int 0, .int 0, .int 0, .int 0, .int 0, .int 0, .int (-1), .ref (v.1 5), .int 0, .int 0, .int 0, .int 0, .int 0, .int 0, .ref (v.1 6), .ref (v.1 7), .ref (v.1 8), .ref (v.1 9), .int 0, .int 0, .ref (v.1 10), .int 0, .ref (v.1 11), .int 0, .ref (v.1 12), .ref (v.1 13), .ref (v.1 14), .ref (v.1 15)])), ((v.1 0), .inl (cA 1, 122, .inl (fun _ => 0))), ((v.1 1), .inl (cA 1, 366, .inl (fun _ => 0))), ((v.1 2), .inl (cA 3, 3, .inl (fun _ => 0)))] H := hP
  have hD : va_D (fun q : Nat => s.heap.size ≤ q) [(qm, .inr (12, [.int 0, .ref (v.1 0), .ref (v.1 1), .ref (v.1 2), .ref (v.1 3), .int 0, .ref (v.1 4), .int 0, .int 0, .int 0, .int 0, .int 0, .int 0, .int (-1), .ref (v.1 5), .int 0, .int 0, .int 0, .int 0, .int 0, .int 0, .ref (v.1 6), .ref (v.1 7), .ref (v.1 8), .ref (v.1 9), .int 0, .int 0, .ref (v.1 10), .int 0, .ref (v.1 11), .int 0, .ref (v.1 12), .ref (v.1 13), .ref (v.1 14), .ref (v.1 15)])), ((v.1 0), .inl (cA 1, 122, .inl (fun _ => 0))), ((v.1 1), .inl (cA 1, 366, .inl (fun _ => 0))), ((v.1 2), .inl (cA 3, 3, .inl (fun _ => 0)))] := hD
  rcases hr_2 with ⟨k_2_0, rfl⟩ | ⟨k_2_1, rfl⟩
  · skip
    refine lv_aload_n hx hb dL_law_2055 rfl (lv_at hl 1 rfl) ?_
    refine lv_aload_n hx hb dL_law_2056 rfl (lv_at hl 3 rfl) ?_
    refine lv_iload_n hx hb dL_law_2057 rfl (lv_at hl 0 rfl) ?_
    refine lv_iconst (v := 1) hx hb dL_law_2058 (by decide) ?_
    refine lv_iadd hx hb dL_law_2059 ?_
    refine lv_topi (fun x_3 ex_3 => ?_)
    obtain rfl : x_3 = 1 := ex_3.trans (by decide)
    refine va_sld hx hb hX hbl hbA hS (L := 6) (by unfold vp_in; decide) dL_law_2060 ?_
    refine W.eq (g2 := F0 m 2061 ls [.int (xs 1), .ref qm, .int 0]) rfl ?_
    refine cmVi (rest := [.int 0]) (wsC := [(qm, .inr (12, [.int 0, .ref (v.1 0), .ref (v.1 1), .ref (v.1 2), .ref (v.1 3), .int 0, .ref (v.1 4), .int 0, .int 0, .int 0, .int 0, .int 0, .int 0, .int (-1), .ref (v.1 5), .int 0, .int 0, .int 0, .int 0, .int 0, .int 0, .ref (v.1 6), .ref (v.1 7), .ref (v.1 8), .ref (v.1 9), .int 0, .int 0, .ref (v.1 10), .int 0, .ref (v.1 11), .int 0, .ref (v.1 12), .ref (v.1 13), .ref (v.1 14), .ref (v.1 15)])), ((v.1 0), .inl (cA 1, 122, .inl (fun _ => 0))), ((v.1 1), .inl (cA 1, 366, .inl (fun _ => 0))), ((v.1 2), .inl (cA 3, 3, .inl (fun _ => 0)))]) (wr := []) ⟨hx, hb, hml, hown, hts⟩ hKN hP hD hS hA [0, 1, 2, 3] [] rfl rfl (by decide) (by decide) (by decide) (k_X12_image l D cA _ qm (v.1 0) (v.1 1) (v.1 2) (v.1 3) (v.1 4) (v.1 5) (v.1 6) (v.1 7) (v.1 8) (v.1 9) (v.1 10) (v.1 11) (v.1 12) (v.1 13) (v.1 14) (v.1 15) (xs 1)) (tb_V tw_1525 tw_1526 tw_1527 tw_114 tw_1528) hdX12_image ⟨rfl, rfl, Nat.le_of_ble_eq_true rfl, Nat.le_of_ble_eq_true rfl⟩ ⟨Nat.le_of_ble_eq_true rfl, Nat.le_of_ble_eq_true rfl⟩ rfl rfl rfl hl.1 rfl (Nat.le_of_ble_eq_true rfl) dL_law_2061 (fun r_4 u_4 H locs hr_4 hP hD hS => ?_)
    have hP : va_P D vwCl [] H := hP
    have hD : va_D (fun q : Nat => s.heap.size ≤ q) [] := hD
    rcases hr_4 with ⟨k_4_0, rfl⟩ | ⟨k_4_1, rfl⟩
    · skip
      refine lv_icmp_eq (tgt := 2271) hx hb dL_law_2064 (by decide) (fun c_5 => ?_) (fun c_5 => absurd (by decide) c_5)
      exact lawEnd l C0 hS (Nat.le_of_ble_eq_true rfl) (Nat.le_of_ble_eq_true rfl) (lv_sub hl [0, 1, 2, 3] rfl)
    · skip
      exfalso
      omega
  · skip
    refine lv_aload_n hx hb dL_law_2055 rfl (lv_at hl 1 rfl) ?_
    refine lv_aload_n hx hb dL_law_2056 rfl (lv_at hl 3 rfl) ?_
    refine lv_iload_n hx hb dL_law_2057 rfl (lv_at hl 0 rfl) ?_
    refine lv_iconst (v := 1) hx hb dL_law_2058 (by decide) ?_
    refine lv_iadd hx hb dL_law_2059 ?_
    refine lv_topi (fun x_6 ex_6 => ?_)
    obtain rfl : x_6 = 1 := ex_6.trans (by decide)
    refine va_sld hx hb hX hbl hbA hS (L := 6) (by unfold vp_in; decide) dL_law_2060 ?_
    refine W.eq (g2 := F0 m 2061 ls [.int (xs 1), .ref qm, .int (-2)]) rfl ?_
    refine cmVi (rest := [.int (-2)]) (wsC := [(qm, .inr (12, [.int 0, .ref (v.1 0), .ref (v.1 1), .ref (v.1 2), .ref (v.1 3), .int 0, .ref (v.1 4), .int 0, .int 0, .int 0, .int 0, .int 0, .int 0, .int (-1), .ref (v.1 5), .int 0, .int 0, .int 0, .int 0, .int 0, .int 0, .ref (v.1 6), .ref (v.1 7), .ref (v.1 8), .ref (v.1 9), .int 0, .int 0, .ref (v.1 10), .int 0, .ref (v.1 11), .int 0, .ref (v.1 12), .ref (v.1 13), .ref (v.1 14), .ref (v.1 15)])), ((v.1 0), .inl (cA 1, 122, .inl (fun _ => 0))), ((v.1 1), .inl (cA 1, 366, .inl (fun _ => 0))), ((v.1 2), .inl (cA 3, 3, .inl (fun _ => 0)))]) (wr := []) ⟨hx, hb, hml, hown, hts⟩ hKN hP hD hS hA [0, 1, 2, 3] [] rfl rfl (by decide) (by decide) (by decide) (k_X12_image l D cA _ qm (v.1 0) (v.1 1) (v.1 2) (v.1 3) (v.1 4) (v.1 5) (v.1 6) (v.1 7) (v.1 8) (v.1 9) (v.1 10) (v.1 11) (v.1 12) (v.1 13) (v.1 14) (v.1 15) (xs 1)) (tb_V tw_1525 tw_1526 tw_1527 tw_114 tw_1528) hdX12_image ⟨rfl, rfl, Nat.le_of_ble_eq_true rfl, Nat.le_of_ble_eq_true rfl⟩ ⟨Nat.le_of_ble_eq_true rfl, Nat.le_of_ble_eq_true rfl⟩ rfl rfl rfl hl.1 rfl (Nat.le_of_ble_eq_true rfl) dL_law_2061 (fun r_7 u_7 H locs hr_7 hP hD hS => ?_)
    have hP : va_P D vwCl [] H := hP
    have hD : va_D (fun q : Nat => s.heap.size ≤ q) [] := hD
    rcases hr_7 with ⟨k_7_0, rfl⟩ | ⟨k_7_1, rfl⟩
    · skip
      exfalso
      omega
    · skip
      refine lv_icmp_eq (tgt := 2271) hx hb dL_law_2064 (by decide) (fun c_8 => ?_) (fun c_8 => absurd (by decide) c_8)
      exact lawEnd l C0 hS (Nat.le_of_ble_eq_true rfl) (Nat.le_of_ble_eq_true rfl) (lv_sub hl [0, 1, 2, 3] rfl)
set_option maxHeartbeats 4000000 in
set_option maxRecDepth 100000 in
theorem law_c69 {p : Program} {e : Env} {s : State} {m : MethodId} {below : List Frame} {meth : Method} {c : Code} (l : Launch) {b : Nat} {xs : Nat → Int32} (C0 : lw_At p s m meth c b 6 xs) (D : va_G) (cA : Nat → ClassId) (hKN : KN D cA s) {H : Heap} {locs : List Loc} {ls : Array Slot} (qx qm : Nat) (u v : SU) (hP : va_P D vwCl (wXM cA qx qm u v) H) (hD : va_D (fun q : Nat => s.heap.size ≤ q) (wXM cA qx qm u v)) (hS : va_S (fun q : Nat => s.heap.size ≤ q) s.heap H locs) (hl : lv_has ls 4 [(3, .int 0), (2, .ref qm), (1, .ref qx), (0, .ref b)]) : W p l e room_1 s m #[Value.ref b] below meth c H locs 104 9712 (lw_Z below #[Value.ref b] s) (F0 m 2069 ls []) := by
  obtain ⟨hx, hb, hr, hml, hown, hts0, hX, hbl, hlocks, hgv⟩ := id C0
  have hts : ∀ w ∈ TB, w.before _ s = true := fun w h => hts0 w (List.mem_filter.mp h).1
  have hb : c.code = cL_law := hb
  have hown : s.vm.findClass "WristTreatyLaw" = some m.cls := hown
  have hA : ∀ q : Nat, s.heap.size ≤ q → (fun q : Nat => s.heap.size ≤ q) q := fun _ h => h
  have hbA : ¬ (fun q : Nat => s.heap.size ≤ q) b := Nat.not_le.mpr hbl
  have hP := hP.sub (ws' := [(qx, .inr (11, [.ref (u.1 0), .ref (u.1 2), .ref (u.1 13), .ref (u.1 22), .ref (u.1 26), .ref (u.1 69), .ref (u.1 73), .ref (u.1 74), .ref (u.1 77), .ref (u.1 79), .ref (u.1 83)])), ((u.1 26), .inl (cA 4, 3, .inr (.inr (.inr (.inr (selO [(u.1 27), (u.1 41), (u.1 55)])))))), ((u.1 27), .inr (4, [.ref (u.1 28), .ref (u.1 37), .int 0])), ((u.1 41), .inr (4, [.ref (u.1 42), .ref (u.1 51), .int 0])), ((u.1 55), .inr (4, [.ref (u.1 56), .ref (u.1 65), .int 0])), (qm, .inr (12, [.int 0, .ref (v.1 0), .ref (v.1 1), .ref (v.1 2), .ref (v.1 3), .int 0, .ref (v.1 4), .int 0, .int 0, .int 0, .int 0, .int 0, .int 0, .int (-1), .ref (v.1 5), .int 0, .int 0, .int 0, .int 0, .int 0, .int 0, .ref (v.1 6), .ref (v.1 7), .ref (v.1 8), .ref (v.1 9), .int 0, .int 0, .ref (v.1 10), .int 0, .ref (v.1 11), .int 0, .ref (v.1 12), .ref (v.1 13), .ref (v.1 14), .ref (v.1 15)])), ((v.1 2), .inl (cA 3, 3, .inl (fun _ => 0)))]) [0, 27, 28, 42, 56, 87, 90] rfl
  have hD := hD.sub (ws' := [(qx, .inr (11, [.ref (u.1 0), .ref (u.1 2), .ref (u.1 13), .ref (u.1 22), .ref (u.1 26), .ref (u.1 69), .ref (u.1 73), .ref (u.1 74), .ref (u.1 77), .ref (u.1 79), .ref (u.1 83)])), ((u.1 26), .inl (cA 4, 3, .inr (.inr (.inr (.inr (selO [(u.1 27), (u.1 41), (u.1 55)])))))), ((u.1 27), .inr (4, [.ref (u.1 28), .ref (u.1 37), .int 0])), ((u.1 41), .inr (4, [.ref (u.1 42), .ref (u.1 51), .int 0])), ((u.1 55), .inr (4, [.ref (u.1 56), .ref (u.1 65), .int 0])), (qm, .inr (12, [.int 0, .ref (v.1 0), .ref (v.1 1), .ref (v.1 2), .ref (v.1 3), .int 0, .ref (v.1 4), .int 0, .int 0, .int 0, .int 0, .int 0, .int 0, .int (-1), .ref (v.1 5), .int 0, .int 0, .int 0, .int 0, .int 0, .int 0, .ref (v.1 6), .ref (v.1 7), .ref (v.1 8), .ref (v.1 9), .int 0, .int 0, .ref (v.1 10), .int 0, .ref (v.1 11), .int 0, .ref (v.1 12), .ref (v.1 13), .ref (v.1 14), .ref (v.1 15)])), ((v.1 2), .inl (cA 3, 3, .inl (fun _ => 0)))]) [0, 27, 28, 42, 56, 87, 90] (by decide) rfl
  refine lv_aload_n hx hb dL_law_2069 rfl (lv_at hl 2 rfl) ?_
  refine lv_aload_n hx hb dL_law_2070 rfl (lv_at hl 3 rfl) ?_
  refine lv_iload_n hx hb dL_law_2071 rfl (lv_at hl 0 rfl) ?_
  refine lv_iconst (v := 1) hx hb dL_law_2072 (by decide) ?_
  refine lv_iadd hx hb dL_law_2073 ?_
  refine lv_topi (fun x_1 ex_1 => ?_)
  obtain rfl : x_1 = 1 := ex_1.trans (by decide)
  refine va_sld hx hb hX hbl hbA hS (L := 6) (by unfold vp_in; decide) dL_law_2074 ?_
  refine W.eq (g2 := F0 m 2075 ls [.int (xs 1), .ref qx]) rfl ?_
  refine cpVi (rest := []) ⟨hx, hb, hml, hown, hts⟩ hKN (hP.sub (ws' := [(qx, .inr (11, [.ref (u.1 0), .ref (u.1 2), .ref (u.1 13), .ref (u.1 22), .ref (u.1 26), .ref (u.1 69), .ref (u.1 73), .ref (u.1 74), .ref (u.1 77), .ref (u.1 79), .ref (u.1 83)])), ((u.1 26), .inl (cA 4, 3, .inr (.inr (.inr (.inr (selO [(u.1 27), (u.1 41), (u.1 55)])))))), ((u.1 27), .inr (4, [.ref (u.1 28), .ref (u.1 37), .int 0])), ((u.1 41), .inr (4, [.ref (u.1 42), .ref (u.1 51), .int 0])), ((u.1 55), .inr (4, [.ref (u.1 56), .ref (u.1 65), .int 0]))]) [0, 1, 2, 3, 4] rfl) (k_X11_back l D cA qx (u.1 0) (u.1 2) (u.1 13) (u.1 22) (u.1 26) (u.1 69) (u.1 73) (u.1 74) (u.1 77) (u.1 79) (u.1 83) (u.1 27) (u.1 41) (u.1 55) (u.1 28) (u.1 37) (u.1 42) (u.1 51) (u.1 56) (u.1 65) (xs 1)) (tb_V tw_1377 tw_1378 tw_1379 tw_101 tw_1380) hdX11_back ⟨rfl, rfl, Nat.le_of_ble_eq_true rfl, Nat.le_of_ble_eq_true rfl⟩ ⟨Nat.le_of_ble_eq_true rfl, Nat.le_of_ble_eq_true rfl⟩ rfl rfl rfl hl.1 rfl (Nat.le_of_ble_eq_true rfl) dL_law_2075 (fun r_2 hr_2 => ?_)
  rcases hr_2 with ⟨k_2_0, rfl⟩ | ⟨k_2_1, rfl⟩
  · skip
    refine lv_aload_n hx hb dL_law_2078 rfl (lv_at hl 1 rfl) ?_
    refine lv_aload_n hx hb dL_law_2079 rfl (lv_at hl 3 rfl) ?_
    refine lv_iload_n hx hb dL_law_2080 rfl (lv_at hl 0 rfl) ?_
    refine lv_iconst (v := 1) hx hb dL_law_2081 (by decide) ?_
    refine lv_iadd hx hb dL_law_2082 ?_
    refine lv_topi (fun x_3 ex_3 => ?_)
    obtain rfl : x_3 = 1 := ex_3.trans (by decide)
    refine va_sld hx hb hX hbl hbA hS (L := 6) (by unfold vp_in; decide) dL_law_2083 ?_
    refine W.eq (g2 := F0 m 2084 ls [.int (xs 1), .ref qm, .int (-6)]) rfl ?_
    refine cpVi (rest := [.int (-6)]) ⟨hx, hb, hml, hown, hts⟩ hKN (hP.sub (ws' := [(qm, .inr (12, [.int 0, .ref (v.1 0), .ref (v.1 1), .ref (v.1 2), .ref (v.1 3), .int 0, .ref (v.1 4), .int 0, .int 0, .int 0, .int 0, .int 0, .int 0, .int (-1), .ref (v.1 5), .int 0, .int 0, .int 0, .int 0, .int 0, .int 0, .ref (v.1 6), .ref (v.1 7), .ref (v.1 8), .ref (v.1 9), .int 0, .int 0, .ref (v.1 10), .int 0, .ref (v.1 11), .int 0, .ref (v.1 12), .ref (v.1 13), .ref (v.1 14), .ref (v.1 15)])), ((v.1 2), .inl (cA 3, 3, .inl (fun _ => 0)))]) [5, 6] rfl) (k_X12_back l D cA qm (v.1 0) (v.1 1) (v.1 2) (v.1 3) (v.1 4) (v.1 5) (v.1 6) (v.1 7) (v.1 8) (v.1 9) (v.1 10) (v.1 11) (v.1 12) (v.1 13) (v.1 14) (v.1 15) (xs 1)) (tb_V tw_1533 tw_1534 tw_1535 tw_114 tw_1536) hdX12_back ⟨rfl, rfl, Nat.le_of_ble_eq_true rfl, Nat.le_of_ble_eq_true rfl⟩ ⟨Nat.le_of_ble_eq_true rfl, Nat.le_of_ble_eq_true rfl⟩ rfl rfl rfl hl.1 rfl (Nat.le_of_ble_eq_true rfl) dL_law_2084 (fun r_4 hr_4 => ?_)
    rcases hr_4 with ⟨k_4_0, rfl⟩ | ⟨k_4_1, rfl⟩
    · skip
      refine lv_icmp_eq (tgt := 2271) hx hb dL_law_2087 (by decide) (fun c_5 => ?_) (fun c_5 => absurd (by decide) c_5)
      exact lawEnd l C0 hS (Nat.le_of_ble_eq_true rfl) (Nat.le_of_ble_eq_true rfl) (lv_sub hl [0, 1, 2, 3] rfl)
    · skip
      exfalso
      omega
  · skip
    refine lv_aload_n hx hb dL_law_2078 rfl (lv_at hl 1 rfl) ?_
    refine lv_aload_n hx hb dL_law_2079 rfl (lv_at hl 3 rfl) ?_
    refine lv_iload_n hx hb dL_law_2080 rfl (lv_at hl 0 rfl) ?_
    refine lv_iconst (v := 1) hx hb dL_law_2081 (by decide) ?_
    refine lv_iadd hx hb dL_law_2082 ?_
    refine lv_topi (fun x_6 ex_6 => ?_)
    obtain rfl : x_6 = 1 := ex_6.trans (by decide)
    refine va_sld hx hb hX hbl hbA hS (L := 6) (by unfold vp_in; decide) dL_law_2083 ?_
    refine W.eq (g2 := F0 m 2084 ls [.int (xs 1), .ref qm, .int (-2)]) rfl ?_
    refine cpVi (rest := [.int (-2)]) ⟨hx, hb, hml, hown, hts⟩ hKN (hP.sub (ws' := [(qm, .inr (12, [.int 0, .ref (v.1 0), .ref (v.1 1), .ref (v.1 2), .ref (v.1 3), .int 0, .ref (v.1 4), .int 0, .int 0, .int 0, .int 0, .int 0, .int 0, .int (-1), .ref (v.1 5), .int 0, .int 0, .int 0, .int 0, .int 0, .int 0, .ref (v.1 6), .ref (v.1 7), .ref (v.1 8), .ref (v.1 9), .int 0, .int 0, .ref (v.1 10), .int 0, .ref (v.1 11), .int 0, .ref (v.1 12), .ref (v.1 13), .ref (v.1 14), .ref (v.1 15)])), ((v.1 2), .inl (cA 3, 3, .inl (fun _ => 0)))]) [5, 6] rfl) (k_X12_back l D cA qm (v.1 0) (v.1 1) (v.1 2) (v.1 3) (v.1 4) (v.1 5) (v.1 6) (v.1 7) (v.1 8) (v.1 9) (v.1 10) (v.1 11) (v.1 12) (v.1 13) (v.1 14) (v.1 15) (xs 1)) (tb_V tw_1533 tw_1534 tw_1535 tw_114 tw_1536) hdX12_back ⟨rfl, rfl, Nat.le_of_ble_eq_true rfl, Nat.le_of_ble_eq_true rfl⟩ ⟨Nat.le_of_ble_eq_true rfl, Nat.le_of_ble_eq_true rfl⟩ rfl rfl rfl hl.1 rfl (Nat.le_of_ble_eq_true rfl) dL_law_2084 (fun r_7 hr_7 => ?_)
    rcases hr_7 with ⟨k_7_0, rfl⟩ | ⟨k_7_1, rfl⟩
    · skip
      exfalso
      omega
    · skip
      refine lv_icmp_eq (tgt := 2271) hx hb dL_law_2087 (by decide) (fun c_8 => ?_) (fun c_8 => absurd (by decide) c_8)
      exact lawEnd l C0 hS (Nat.le_of_ble_eq_true rfl) (Nat.le_of_ble_eq_true rfl) (lv_sub hl [0, 1, 2, 3] rfl)

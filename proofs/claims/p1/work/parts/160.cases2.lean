set_option maxHeartbeats 4000000 in
set_option maxRecDepth 100000 in
theorem law_c20 {p : Program} {e : Env} {s : State} {m : MethodId} {below : List Frame} {meth : Method} {c : Code} (l : Launch) {b : Nat} {xs : Nat → Int32} (C0 : lw_At p s m meth c b 6 xs) (D : va_G) (cA : Nat → ClassId) (hKN : KN D cA s) {H : Heap} {locs : List Loc} {ls : Array Slot} (qx qm : Nat) (u v : SU) (hP : va_P D vwCl (wXM cA qx qm u v) H) (hD : va_D (fun q : Nat => s.heap.size ≤ q) (wXM cA qx qm u v)) (hS : va_S (fun q : Nat => s.heap.size ≤ q) s.heap H locs) (hl : lv_has ls 4 [(3, .int 0), (2, .ref qm), (1, .ref qx), (0, .ref b)]) : W p l e room_1 s m #[Value.ref b] below meth c H locs 104 9712 (lw_Z below #[Value.ref b] s) (F0 m 820 ls []) := by
  obtain ⟨hx, hb, hr, hml, hown, hts0, hX, hbl, hlocks, hgv⟩ := id C0
  have hts : ∀ w ∈ TB, w.before _ s = true := fun w h => hts0 w (List.mem_filter.mp h).1
  have hb : c.code = cL_law := hb
  have hown : s.vm.findClass "WristTreatyLaw" = some m.cls := hown
  have hA : ∀ q : Nat, s.heap.size ≤ q → (fun q : Nat => s.heap.size ≤ q) q := fun _ h => h
  have hbA : ¬ (fun q : Nat => s.heap.size ≤ q) b := Nat.not_le.mpr hbl
  have hP := hP.sub (ws' := [(qx, .inr (11, [.ref (u.1 0), .ref (u.1 2), .ref (u.1 13), .ref (u.1 22), .ref (u.1 26), .ref (u.1 69), .ref (u.1 73), .ref (u.1 74), .ref (u.1 77), .ref (u.1 79), .ref (u.1 83)])), ((u.1 13), .inr (3, [.int 0, .int 0, .int 0, .int 0, .int 0, .int 0, .int 0, .int 0, .ref (u.1 14), .ref (u.1 15), .ref (u.1 16), .ref (u.1 17), .ref (u.1 18), .ref (u.1 19), .ref (u.1 20), .ref (u.1 21)])), (qm, .inr (12, [.int 0, .ref (v.1 0), .ref (v.1 1), .ref (v.1 2), .ref (v.1 3), .int 0, .ref (v.1 4), .int 0, .int 0, .int 0, .int 0, .int 0, .int 0, .int (-1), .ref (v.1 5), .int 0, .int 0, .int 0, .int 0, .int 0, .int 0, .ref (v.1 6), .ref (v.1 7), .ref (v.1 8), .ref (v.1 9), .int 0, .int 0, .ref (v.1 10), .int 0, .ref (v.1 11), .int 0, .ref (v.1 12), .ref (v.1 13), .ref (v.1 14), .ref (v.1 15)])), ((v.1 0), .inl (cA 1, 122, .inl (fun _ => 0)))]) [0, 14, 87, 88] rfl
  have hD := hD.sub (ws' := [(qx, .inr (11, [.ref (u.1 0), .ref (u.1 2), .ref (u.1 13), .ref (u.1 22), .ref (u.1 26), .ref (u.1 69), .ref (u.1 73), .ref (u.1 74), .ref (u.1 77), .ref (u.1 79), .ref (u.1 83)])), ((u.1 13), .inr (3, [.int 0, .int 0, .int 0, .int 0, .int 0, .int 0, .int 0, .int 0, .ref (u.1 14), .ref (u.1 15), .ref (u.1 16), .ref (u.1 17), .ref (u.1 18), .ref (u.1 19), .ref (u.1 20), .ref (u.1 21)])), (qm, .inr (12, [.int 0, .ref (v.1 0), .ref (v.1 1), .ref (v.1 2), .ref (v.1 3), .int 0, .ref (v.1 4), .int 0, .int 0, .int 0, .int 0, .int 0, .int 0, .int (-1), .ref (v.1 5), .int 0, .int 0, .int 0, .int 0, .int 0, .int 0, .ref (v.1 6), .ref (v.1 7), .ref (v.1 8), .ref (v.1 9), .int 0, .int 0, .ref (v.1 10), .int 0, .ref (v.1 11), .int 0, .ref (v.1 12), .ref (v.1 13), .ref (v.1 14), .ref (v.1 15)])), ((v.1 0), .inl (cA 1, 122, .inl (fun _ => 0)))]) [0, 14, 87, 88] (by decide) rfl
  refine lv_aload_n hx hb dL_law_820 rfl (lv_at hl 2 rfl) ?_
  refine lv_aload_n hx hb dL_law_821 rfl (lv_at hl 3 rfl) ?_
  refine lv_iload_n hx hb dL_law_822 rfl (lv_at hl 0 rfl) ?_
  refine lv_iconst (v := 1) hx hb dL_law_823 (by decide) ?_
  refine lv_iadd hx hb dL_law_824 ?_
  refine lv_topi (fun x_1 ex_1 => ?_)
  obtain rfl : x_1 = 1 := ex_1.trans (by decide)
  refine va_sld hx hb hX hbl hbA hS (L := 6) (by unfold vp_in; decide) dL_law_825 ?_
  refine W.eq (g2 := F0 m 826 ls [.int (xs 1), .ref qx]) rfl ?_
  refine cpVi (rest := []) ⟨hx, hb, hml, hown, hts⟩ hKN (hP.sub (ws' := [(qx, .inr (11, [.ref (u.1 0), .ref (u.1 2), .ref (u.1 13), .ref (u.1 22), .ref (u.1 26), .ref (u.1 69), .ref (u.1 73), .ref (u.1 74), .ref (u.1 77), .ref (u.1 79), .ref (u.1 83)])), ((u.1 13), .inr (3, [.int 0, .int 0, .int 0, .int 0, .int 0, .int 0, .int 0, .int 0, .ref (u.1 14), .ref (u.1 15), .ref (u.1 16), .ref (u.1 17), .ref (u.1 18), .ref (u.1 19), .ref (u.1 20), .ref (u.1 21)]))]) [0, 1] rfl) (k_X11_strong l D cA qx (u.1 0) (u.1 2) (u.1 13) (u.1 22) (u.1 26) (u.1 69) (u.1 73) (u.1 74) (u.1 77) (u.1 79) (u.1 83) (u.1 14) (u.1 15) (u.1 16) (u.1 17) (u.1 18) (u.1 19) (u.1 20) (u.1 21) (xs 1)) (tb_V tw_865 tw_866 tw_867 tw_101 tw_868) hdX11_strong ⟨rfl, rfl, Nat.le_of_ble_eq_true rfl, Nat.le_of_ble_eq_true rfl⟩ ⟨Nat.le_of_ble_eq_true rfl, Nat.le_of_ble_eq_true rfl⟩ rfl rfl rfl hl.1 rfl (Nat.le_of_ble_eq_true rfl) dL_law_826 (fun r_2 hr_2 => ?_)
  obtain rfl : r_2 = (-2) := hr_2
  refine lv_aload_n hx hb dL_law_829 rfl (lv_at hl 1 rfl) ?_
  refine lv_aload_n hx hb dL_law_830 rfl (lv_at hl 3 rfl) ?_
  refine lv_iload_n hx hb dL_law_831 rfl (lv_at hl 0 rfl) ?_
  refine lv_iconst (v := 1) hx hb dL_law_832 (by decide) ?_
  refine lv_iadd hx hb dL_law_833 ?_
  refine lv_topi (fun x_3 ex_3 => ?_)
  obtain rfl : x_3 = 1 := ex_3.trans (by decide)
  refine va_sld hx hb hX hbl hbA hS (L := 6) (by unfold vp_in; decide) dL_law_834 ?_
  refine W.eq (g2 := F0 m 835 ls [.int (xs 1), .ref qm, .int (-2)]) rfl ?_
  refine cpVi (rest := [.int (-2)]) ⟨hx, hb, hml, hown, hts⟩ hKN (hP.sub (ws' := [(qm, .inr (12, [.int 0, .ref (v.1 0), .ref (v.1 1), .ref (v.1 2), .ref (v.1 3), .int 0, .ref (v.1 4), .int 0, .int 0, .int 0, .int 0, .int 0, .int 0, .int (-1), .ref (v.1 5), .int 0, .int 0, .int 0, .int 0, .int 0, .int 0, .ref (v.1 6), .ref (v.1 7), .ref (v.1 8), .ref (v.1 9), .int 0, .int 0, .ref (v.1 10), .int 0, .ref (v.1 11), .int 0, .ref (v.1 12), .ref (v.1 13), .ref (v.1 14), .ref (v.1 15)])), ((v.1 0), .inl (cA 1, 122, .inl (fun _ => 0)))]) [2, 3] rfl) (k_X12_strong l D cA qm (v.1 0) (v.1 1) (v.1 2) (v.1 3) (v.1 4) (v.1 5) (v.1 6) (v.1 7) (v.1 8) (v.1 9) (v.1 10) (v.1 11) (v.1 12) (v.1 13) (v.1 14) (v.1 15) (xs 1)) (tb_V tw_1791 tw_1792 tw_1793 tw_114 tw_1794) hdX12_strong ⟨rfl, rfl, Nat.le_of_ble_eq_true rfl, Nat.le_of_ble_eq_true rfl⟩ ⟨Nat.le_of_ble_eq_true rfl, Nat.le_of_ble_eq_true rfl⟩ rfl rfl rfl hl.1 rfl (Nat.le_of_ble_eq_true rfl) dL_law_835 (fun r_4 hr_4 => ?_)
  obtain rfl : r_4 = (-2) := hr_4
  refine lv_icmp_eq (tgt := 2271) hx hb dL_law_838 (by decide) (fun c_5 => ?_) (fun c_5 => absurd (by decide) c_5)
  exact lawEnd l C0 hS (Nat.le_of_ble_eq_true rfl) (Nat.le_of_ble_eq_true rfl) (lv_sub hl [0, 1, 2, 3] rfl)
set_option maxHeartbeats 4000000 in
set_option maxRecDepth 100000 in
theorem law_c21 {p : Program} {e : Env} {s : State} {m : MethodId} {below : List Frame} {meth : Method} {c : Code} (l : Launch) {b : Nat} {xs : Nat → Int32} (C0 : lw_At p s m meth c b 6 xs) (D : va_G) (cA : Nat → ClassId) (hKN : KN D cA s) {H : Heap} {locs : List Loc} {ls : Array Slot} (qx qm : Nat) (u v : SU) (hP : va_P D vwCl (wXM cA qx qm u v) H) (hD : va_D (fun q : Nat => s.heap.size ≤ q) (wXM cA qx qm u v)) (hS : va_S (fun q : Nat => s.heap.size ≤ q) s.heap H locs) (hl : lv_has ls 4 [(3, .int 0), (2, .ref qm), (1, .ref qx), (0, .ref b)]) : W p l e room_1 s m #[Value.ref b] below meth c H locs 104 9712 (lw_Z below #[Value.ref b] s) (F0 m 843 ls []) := by
  obtain ⟨hx, hb, hr, hml, hown, hts0, hX, hbl, hlocks, hgv⟩ := id C0
  have hts : ∀ w ∈ TB, w.before _ s = true := fun w h => hts0 w (List.mem_filter.mp h).1
  have hb : c.code = cL_law := hb
  have hown : s.vm.findClass "WristTreatyLaw" = some m.cls := hown
  have hA : ∀ q : Nat, s.heap.size ≤ q → (fun q : Nat => s.heap.size ≤ q) q := fun _ h => h
  have hbA : ¬ (fun q : Nat => s.heap.size ≤ q) b := Nat.not_le.mpr hbl
  have hP := hP.sub (ws' := [(qx, .inr (11, [.ref (u.1 0), .ref (u.1 2), .ref (u.1 13), .ref (u.1 22), .ref (u.1 26), .ref (u.1 69), .ref (u.1 73), .ref (u.1 74), .ref (u.1 77), .ref (u.1 79), .ref (u.1 83)])), ((u.1 13), .inr (3, [.int 0, .int 0, .int 0, .int 0, .int 0, .int 0, .int 0, .int 0, .ref (u.1 14), .ref (u.1 15), .ref (u.1 16), .ref (u.1 17), .ref (u.1 18), .ref (u.1 19), .ref (u.1 20), .ref (u.1 21)])), (qm, .inr (12, [.int 0, .ref (v.1 0), .ref (v.1 1), .ref (v.1 2), .ref (v.1 3), .int 0, .ref (v.1 4), .int 0, .int 0, .int 0, .int 0, .int 0, .int 0, .int (-1), .ref (v.1 5), .int 0, .int 0, .int 0, .int 0, .int 0, .int 0, .ref (v.1 6), .ref (v.1 7), .ref (v.1 8), .ref (v.1 9), .int 0, .int 0, .ref (v.1 10), .int 0, .ref (v.1 11), .int 0, .ref (v.1 12), .ref (v.1 13), .ref (v.1 14), .ref (v.1 15)])), ((v.1 0), .inl (cA 1, 122, .inl (fun _ => 0)))]) [0, 14, 87, 88] rfl
  have hD := hD.sub (ws' := [(qx, .inr (11, [.ref (u.1 0), .ref (u.1 2), .ref (u.1 13), .ref (u.1 22), .ref (u.1 26), .ref (u.1 69), .ref (u.1 73), .ref (u.1 74), .ref (u.1 77), .ref (u.1 79), .ref (u.1 83)])), ((u.1 13), .inr (3, [.int 0, .int 0, .int 0, .int 0, .int 0, .int 0, .int 0, .int 0, .ref (u.1 14), .ref (u.1 15), .ref (u.1 16), .ref (u.1 17), .ref (u.1 18), .ref (u.1 19), .ref (u.1 20), .ref (u.1 21)])), (qm, .inr (12, [.int 0, .ref (v.1 0), .ref (v.1 1), .ref (v.1 2), .ref (v.1 3), .int 0, .ref (v.1 4), .int 0, .int 0, .int 0, .int 0, .int 0, .int 0, .int (-1), .ref (v.1 5), .int 0, .int 0, .int 0, .int 0, .int 0, .int 0, .ref (v.1 6), .ref (v.1 7), .ref (v.1 8), .ref (v.1 9), .int 0, .int 0, .ref (v.1 10), .int 0, .ref (v.1 11), .int 0, .ref (v.1 12), .ref (v.1 13), .ref (v.1 14), .ref (v.1 15)])), ((v.1 0), .inl (cA 1, 122, .inl (fun _ => 0)))]) [0, 14, 87, 88] (by decide) rfl
  refine lv_aload_n hx hb dL_law_843 rfl (lv_at hl 2 rfl) ?_
  refine lv_aload_n hx hb dL_law_844 rfl (lv_at hl 3 rfl) ?_
  refine lv_iload_n hx hb dL_law_845 rfl (lv_at hl 0 rfl) ?_
  refine lv_iconst (v := 1) hx hb dL_law_846 (by decide) ?_
  refine lv_iadd hx hb dL_law_847 ?_
  refine lv_topi (fun x_1 ex_1 => ?_)
  obtain rfl : x_1 = 1 := ex_1.trans (by decide)
  refine va_sld hx hb hX hbl hbA hS (L := 6) (by unfold vp_in; decide) dL_law_848 ?_
  refine W.eq (g2 := F0 m 849 ls [.int (xs 1), .ref qx]) rfl ?_
  refine cpVi (rest := []) ⟨hx, hb, hml, hown, hts⟩ hKN (hP.sub (ws' := [(qx, .inr (11, [.ref (u.1 0), .ref (u.1 2), .ref (u.1 13), .ref (u.1 22), .ref (u.1 26), .ref (u.1 69), .ref (u.1 73), .ref (u.1 74), .ref (u.1 77), .ref (u.1 79), .ref (u.1 83)])), ((u.1 13), .inr (3, [.int 0, .int 0, .int 0, .int 0, .int 0, .int 0, .int 0, .int 0, .ref (u.1 14), .ref (u.1 15), .ref (u.1 16), .ref (u.1 17), .ref (u.1 18), .ref (u.1 19), .ref (u.1 20), .ref (u.1 21)]))]) [0, 1] rfl) (k_X11_weak l D cA qx (u.1 0) (u.1 2) (u.1 13) (u.1 22) (u.1 26) (u.1 69) (u.1 73) (u.1 74) (u.1 77) (u.1 79) (u.1 83) (u.1 14) (u.1 15) (u.1 16) (u.1 17) (u.1 18) (u.1 19) (u.1 20) (u.1 21) (xs 1)) (tb_V tw_869 tw_870 tw_871 tw_101 tw_872) hdX11_weak ⟨rfl, rfl, Nat.le_of_ble_eq_true rfl, Nat.le_of_ble_eq_true rfl⟩ ⟨Nat.le_of_ble_eq_true rfl, Nat.le_of_ble_eq_true rfl⟩ rfl rfl rfl hl.1 rfl (Nat.le_of_ble_eq_true rfl) dL_law_849 (fun r_2 hr_2 => ?_)
  obtain rfl : r_2 = (-2) := hr_2
  refine lv_aload_n hx hb dL_law_852 rfl (lv_at hl 1 rfl) ?_
  refine lv_aload_n hx hb dL_law_853 rfl (lv_at hl 3 rfl) ?_
  refine lv_iload_n hx hb dL_law_854 rfl (lv_at hl 0 rfl) ?_
  refine lv_iconst (v := 1) hx hb dL_law_855 (by decide) ?_
  refine lv_iadd hx hb dL_law_856 ?_
  refine lv_topi (fun x_3 ex_3 => ?_)
  obtain rfl : x_3 = 1 := ex_3.trans (by decide)
  refine va_sld hx hb hX hbl hbA hS (L := 6) (by unfold vp_in; decide) dL_law_857 ?_
  refine W.eq (g2 := F0 m 858 ls [.int (xs 1), .ref qm, .int (-2)]) rfl ?_
  refine cpVi (rest := [.int (-2)]) ⟨hx, hb, hml, hown, hts⟩ hKN (hP.sub (ws' := [(qm, .inr (12, [.int 0, .ref (v.1 0), .ref (v.1 1), .ref (v.1 2), .ref (v.1 3), .int 0, .ref (v.1 4), .int 0, .int 0, .int 0, .int 0, .int 0, .int 0, .int (-1), .ref (v.1 5), .int 0, .int 0, .int 0, .int 0, .int 0, .int 0, .ref (v.1 6), .ref (v.1 7), .ref (v.1 8), .ref (v.1 9), .int 0, .int 0, .ref (v.1 10), .int 0, .ref (v.1 11), .int 0, .ref (v.1 12), .ref (v.1 13), .ref (v.1 14), .ref (v.1 15)])), ((v.1 0), .inl (cA 1, 122, .inl (fun _ => 0)))]) [2, 3] rfl) (k_X12_weak l D cA qm (v.1 0) (v.1 1) (v.1 2) (v.1 3) (v.1 4) (v.1 5) (v.1 6) (v.1 7) (v.1 8) (v.1 9) (v.1 10) (v.1 11) (v.1 12) (v.1 13) (v.1 14) (v.1 15) (xs 1)) (tb_V tw_1787 tw_1788 tw_1789 tw_114 tw_1790) hdX12_weak ⟨rfl, rfl, Nat.le_of_ble_eq_true rfl, Nat.le_of_ble_eq_true rfl⟩ ⟨Nat.le_of_ble_eq_true rfl, Nat.le_of_ble_eq_true rfl⟩ rfl rfl rfl hl.1 rfl (Nat.le_of_ble_eq_true rfl) dL_law_858 (fun r_4 hr_4 => ?_)
  obtain rfl : r_4 = (-2) := hr_4
  refine lv_icmp_eq (tgt := 2271) hx hb dL_law_861 (by decide) (fun c_5 => ?_) (fun c_5 => absurd (by decide) c_5)
  exact lawEnd l C0 hS (Nat.le_of_ble_eq_true rfl) (Nat.le_of_ble_eq_true rfl) (lv_sub hl [0, 1, 2, 3] rfl)
set_option maxHeartbeats 4000000 in
set_option maxRecDepth 100000 in
theorem law_c22 {p : Program} {e : Env} {s : State} {m : MethodId} {below : List Frame} {meth : Method} {c : Code} (l : Launch) {b : Nat} {xs : Nat → Int32} (C0 : lw_At p s m meth c b 6 xs) (D : va_G) (cA : Nat → ClassId) (hKN : KN D cA s) {H : Heap} {locs : List Loc} {ls : Array Slot} (qx qm : Nat) (u v : SU) (hP : va_P D vwCl (wXM cA qx qm u v) H) (hD : va_D (fun q : Nat => s.heap.size ≤ q) (wXM cA qx qm u v)) (hS : va_S (fun q : Nat => s.heap.size ≤ q) s.heap H locs) (hl : lv_has ls 4 [(3, .int 0), (2, .ref qm), (1, .ref qx), (0, .ref b)]) : W p l e room_1 s m #[Value.ref b] below meth c H locs 104 9712 (lw_Z below #[Value.ref b] s) (F0 m 866 ls []) := by
  obtain ⟨hx, hb, hr, hml, hown, hts0, hX, hbl, hlocks, hgv⟩ := id C0
  have hts : ∀ w ∈ TB, w.before _ s = true := fun w h => hts0 w (List.mem_filter.mp h).1
  have hb : c.code = cL_law := hb
  have hown : s.vm.findClass "WristTreatyLaw" = some m.cls := hown
  have hA : ∀ q : Nat, s.heap.size ≤ q → (fun q : Nat => s.heap.size ≤ q) q := fun _ h => h
  have hbA : ¬ (fun q : Nat => s.heap.size ≤ q) b := Nat.not_le.mpr hbl
  have hP := hP.sub (ws' := [(qx, .inr (11, [.ref (u.1 0), .ref (u.1 2), .ref (u.1 13), .ref (u.1 22), .ref (u.1 26), .ref (u.1 69), .ref (u.1 73), .ref (u.1 74), .ref (u.1 77), .ref (u.1 79), .ref (u.1 83)])), ((u.1 13), .inr (3, [.int 0, .int 0, .int 0, .int 0, .int 0, .int 0, .int 0, .int 0, .ref (u.1 14), .ref (u.1 15), .ref (u.1 16), .ref (u.1 17), .ref (u.1 18), .ref (u.1 19), .ref (u.1 20), .ref (u.1 21)])), (qm, .inr (12, [.int 0, .ref (v.1 0), .ref (v.1 1), .ref (v.1 2), .ref (v.1 3), .int 0, .ref (v.1 4), .int 0, .int 0, .int 0, .int 0, .int 0, .int 0, .int (-1), .ref (v.1 5), .int 0, .int 0, .int 0, .int 0, .int 0, .int 0, .ref (v.1 6), .ref (v.1 7), .ref (v.1 8), .ref (v.1 9), .int 0, .int 0, .ref (v.1 10), .int 0, .ref (v.1 11), .int 0, .ref (v.1 12), .ref (v.1 13), .ref (v.1 14), .ref (v.1 15)])), ((v.1 0), .inl (cA 1, 122, .inl (fun _ => 0)))]) [0, 14, 87, 88] rfl
  have hD := hD.sub (ws' := [(qx, .inr (11, [.ref (u.1 0), .ref (u.1 2), .ref (u.1 13), .ref (u.1 22), .ref (u.1 26), .ref (u.1 69), .ref (u.1 73), .ref (u.1 74), .ref (u.1 77), .ref (u.1 79), .ref (u.1 83)])), ((u.1 13), .inr (3, [.int 0, .int 0, .int 0, .int 0, .int 0, .int 0, .int 0, .int 0, .ref (u.1 14), .ref (u.1 15), .ref (u.1 16), .ref (u.1 17), .ref (u.1 18), .ref (u.1 19), .ref (u.1 20), .ref (u.1 21)])), (qm, .inr (12, [.int 0, .ref (v.1 0), .ref (v.1 1), .ref (v.1 2), .ref (v.1 3), .int 0, .ref (v.1 4), .int 0, .int 0, .int 0, .int 0, .int 0, .int 0, .int (-1), .ref (v.1 5), .int 0, .int 0, .int 0, .int 0, .int 0, .int 0, .ref (v.1 6), .ref (v.1 7), .ref (v.1 8), .ref (v.1 9), .int 0, .int 0, .ref (v.1 10), .int 0, .ref (v.1 11), .int 0, .ref (v.1 12), .ref (v.1 13), .ref (v.1 14), .ref (v.1 15)])), ((v.1 0), .inl (cA 1, 122, .inl (fun _ => 0)))]) [0, 14, 87, 88] (by decide) rfl
  refine lv_aload_n hx hb dL_law_866 rfl (lv_at hl 2 rfl) ?_
  refine cpVi (rest := []) ⟨hx, hb, hml, hown, hts⟩ hKN (hP.sub (ws' := [(qx, .inr (11, [.ref (u.1 0), .ref (u.1 2), .ref (u.1 13), .ref (u.1 22), .ref (u.1 26), .ref (u.1 69), .ref (u.1 73), .ref (u.1 74), .ref (u.1 77), .ref (u.1 79), .ref (u.1 83)])), ((u.1 13), .inr (3, [.int 0, .int 0, .int 0, .int 0, .int 0, .int 0, .int 0, .int 0, .ref (u.1 14), .ref (u.1 15), .ref (u.1 16), .ref (u.1 17), .ref (u.1 18), .ref (u.1 19), .ref (u.1 20), .ref (u.1 21)]))]) [0, 1] rfl) (k_X11_match l D cA qx (u.1 0) (u.1 2) (u.1 13) (u.1 22) (u.1 26) (u.1 69) (u.1 73) (u.1 74) (u.1 77) (u.1 79) (u.1 83) (u.1 14) (u.1 15) (u.1 16) (u.1 17) (u.1 18) (u.1 19) (u.1 20) (u.1 21)) (tb_V tw_873 tw_874 tw_875 tw_101 tw_876) hdX11_match ⟨rfl, rfl, Nat.le_of_ble_eq_true rfl, Nat.le_of_ble_eq_true rfl⟩ ⟨Nat.le_of_ble_eq_true rfl, Nat.le_of_ble_eq_true rfl⟩ rfl rfl rfl hl.1 rfl (Nat.le_of_ble_eq_true rfl) dL_law_867 (fun r_1 hr_1 => ?_)
  obtain rfl : r_1 = (-2) := hr_1
  refine lv_aload_n hx hb dL_law_870 rfl (lv_at hl 1 rfl) ?_
  refine cpVi (rest := [.int (-2)]) ⟨hx, hb, hml, hown, hts⟩ hKN (hP.sub (ws' := [(qm, .inr (12, [.int 0, .ref (v.1 0), .ref (v.1 1), .ref (v.1 2), .ref (v.1 3), .int 0, .ref (v.1 4), .int 0, .int 0, .int 0, .int 0, .int 0, .int 0, .int (-1), .ref (v.1 5), .int 0, .int 0, .int 0, .int 0, .int 0, .int 0, .ref (v.1 6), .ref (v.1 7), .ref (v.1 8), .ref (v.1 9), .int 0, .int 0, .ref (v.1 10), .int 0, .ref (v.1 11), .int 0, .ref (v.1 12), .ref (v.1 13), .ref (v.1 14), .ref (v.1 15)])), ((v.1 0), .inl (cA 1, 122, .inl (fun _ => 0)))]) [2, 3] rfl) (k_X12_match l D cA qm (v.1 0) (v.1 1) (v.1 2) (v.1 3) (v.1 4) (v.1 5) (v.1 6) (v.1 7) (v.1 8) (v.1 9) (v.1 10) (v.1 11) (v.1 12) (v.1 13) (v.1 14) (v.1 15)) (tb_V tw_1795 tw_1796 tw_1797 tw_114 tw_1798) hdX12_match ⟨rfl, rfl, Nat.le_of_ble_eq_true rfl, Nat.le_of_ble_eq_true rfl⟩ ⟨Nat.le_of_ble_eq_true rfl, Nat.le_of_ble_eq_true rfl⟩ rfl rfl rfl hl.1 rfl (Nat.le_of_ble_eq_true rfl) dL_law_871 (fun r_2 hr_2 => ?_)
  obtain rfl : r_2 = (-2) := hr_2
  refine lv_icmp_eq (tgt := 2271) hx hb dL_law_874 (by decide) (fun c_3 => ?_) (fun c_3 => absurd (by decide) c_3)
  exact lawEnd l C0 hS (Nat.le_of_ble_eq_true rfl) (Nat.le_of_ble_eq_true rfl) (lv_sub hl [0, 1, 2, 3] rfl)
set_option maxHeartbeats 4000000 in
set_option maxRecDepth 100000 in
theorem law_c23 {p : Program} {e : Env} {s : State} {m : MethodId} {below : List Frame} {meth : Method} {c : Code} (l : Launch) {b : Nat} {xs : Nat → Int32} (C0 : lw_At p s m meth c b 6 xs) (D : va_G) (cA : Nat → ClassId) (hKN : KN D cA s) {H : Heap} {locs : List Loc} {ls : Array Slot} (qx qm : Nat) (u v : SU) (hP : va_P D vwCl (wXM cA qx qm u v) H) (hD : va_D (fun q : Nat => s.heap.size ≤ q) (wXM cA qx qm u v)) (hS : va_S (fun q : Nat => s.heap.size ≤ q) s.heap H locs) (hl : lv_has ls 4 [(3, .int 0), (2, .ref qm), (1, .ref qx), (0, .ref b)]) : W p l e room_1 s m #[Value.ref b] below meth c H locs 104 9712 (lw_Z below #[Value.ref b] s) (F0 m 879 ls []) := by
  obtain ⟨hx, hb, hr, hml, hown, hts0, hX, hbl, hlocks, hgv⟩ := id C0
  have hts : ∀ w ∈ TB, w.before _ s = true := fun w h => hts0 w (List.mem_filter.mp h).1
  have hb : c.code = cL_law := hb
  have hown : s.vm.findClass "WristTreatyLaw" = some m.cls := hown
  have hA : ∀ q : Nat, s.heap.size ≤ q → (fun q : Nat => s.heap.size ≤ q) q := fun _ h => h
  have hbA : ¬ (fun q : Nat => s.heap.size ≤ q) b := Nat.not_le.mpr hbl
  have hP := hP.sub (ws' := [(qx, .inr (11, [.ref (u.1 0), .ref (u.1 2), .ref (u.1 13), .ref (u.1 22), .ref (u.1 26), .ref (u.1 69), .ref (u.1 73), .ref (u.1 74), .ref (u.1 77), .ref (u.1 79), .ref (u.1 83)])), ((u.1 13), .inr (3, [.int 0, .int 0, .int 0, .int 0, .int 0, .int 0, .int 0, .int 0, .ref (u.1 14), .ref (u.1 15), .ref (u.1 16), .ref (u.1 17), .ref (u.1 18), .ref (u.1 19), .ref (u.1 20), .ref (u.1 21)])), (qm, .inr (12, [.int 0, .ref (v.1 0), .ref (v.1 1), .ref (v.1 2), .ref (v.1 3), .int 0, .ref (v.1 4), .int 0, .int 0, .int 0, .int 0, .int 0, .int 0, .int (-1), .ref (v.1 5), .int 0, .int 0, .int 0, .int 0, .int 0, .int 0, .ref (v.1 6), .ref (v.1 7), .ref (v.1 8), .ref (v.1 9), .int 0, .int 0, .ref (v.1 10), .int 0, .ref (v.1 11), .int 0, .ref (v.1 12), .ref (v.1 13), .ref (v.1 14), .ref (v.1 15)])), ((v.1 0), .inl (cA 1, 122, .inl (fun _ => 0)))]) [0, 14, 87, 88] rfl
  have hD := hD.sub (ws' := [(qx, .inr (11, [.ref (u.1 0), .ref (u.1 2), .ref (u.1 13), .ref (u.1 22), .ref (u.1 26), .ref (u.1 69), .ref (u.1 73), .ref (u.1 74), .ref (u.1 77), .ref (u.1 79), .ref (u.1 83)])), ((u.1 13), .inr (3, [.int 0, .int 0, .int 0, .int 0, .int 0, .int 0, .int 0, .int 0, .ref (u.1 14), .ref (u.1 15), .ref (u.1 16), .ref (u.1 17), .ref (u.1 18), .ref (u.1 19), .ref (u.1 20), .ref (u.1 21)])), (qm, .inr (12, [.int 0, .ref (v.1 0), .ref (v.1 1), .ref (v.1 2), .ref (v.1 3), .int 0, .ref (v.1 4), .int 0, .int 0, .int 0, .int 0, .int 0, .int 0, .int (-1), .ref (v.1 5), .int 0, .int 0, .int 0, .int 0, .int 0, .int 0, .ref (v.1 6), .ref (v.1 7), .ref (v.1 8), .ref (v.1 9), .int 0, .int 0, .ref (v.1 10), .int 0, .ref (v.1 11), .int 0, .ref (v.1 12), .ref (v.1 13), .ref (v.1 14), .ref (v.1 15)])), ((v.1 0), .inl (cA 1, 122, .inl (fun _ => 0)))]) [0, 14, 87, 88] (by decide) rfl
  refine lv_aload_n hx hb dL_law_879 rfl (lv_at hl 2 rfl) ?_
  refine lv_aload_n hx hb dL_law_880 rfl (lv_at hl 3 rfl) ?_
  refine lv_iload_n hx hb dL_law_881 rfl (lv_at hl 0 rfl) ?_
  refine lv_iconst (v := 1) hx hb dL_law_882 (by decide) ?_
  refine lv_iadd hx hb dL_law_883 ?_
  refine lv_topi (fun x_1 ex_1 => ?_)
  obtain rfl : x_1 = 1 := ex_1.trans (by decide)
  refine va_sld hx hb hX hbl hbA hS (L := 6) (by unfold vp_in; decide) dL_law_884 ?_
  refine W.eq (g2 := F0 m 885 ls [.int (xs 1), .ref qx]) rfl ?_
  refine cpVi (rest := []) ⟨hx, hb, hml, hown, hts⟩ hKN (hP.sub (ws' := [(qx, .inr (11, [.ref (u.1 0), .ref (u.1 2), .ref (u.1 13), .ref (u.1 22), .ref (u.1 26), .ref (u.1 69), .ref (u.1 73), .ref (u.1 74), .ref (u.1 77), .ref (u.1 79), .ref (u.1 83)])), ((u.1 13), .inr (3, [.int 0, .int 0, .int 0, .int 0, .int 0, .int 0, .int 0, .int 0, .ref (u.1 14), .ref (u.1 15), .ref (u.1 16), .ref (u.1 17), .ref (u.1 18), .ref (u.1 19), .ref (u.1 20), .ref (u.1 21)]))]) [0, 1] rfl) (k_X11_matched l D cA qx (u.1 0) (u.1 2) (u.1 13) (u.1 22) (u.1 26) (u.1 69) (u.1 73) (u.1 74) (u.1 77) (u.1 79) (u.1 83) (u.1 14) (u.1 15) (u.1 16) (u.1 17) (u.1 18) (u.1 19) (u.1 20) (u.1 21) (xs 1)) (tb_V tw_896 tw_897 tw_898 tw_101 tw_899) hdX11_matched ⟨rfl, rfl, Nat.le_of_ble_eq_true rfl, Nat.le_of_ble_eq_true rfl⟩ ⟨Nat.le_of_ble_eq_true rfl, Nat.le_of_ble_eq_true rfl⟩ rfl rfl rfl hl.1 rfl (Nat.le_of_ble_eq_true rfl) dL_law_885 (fun r_2 hr_2 => ?_)
  obtain rfl : r_2 = (-2) := hr_2
  refine lv_aload_n hx hb dL_law_888 rfl (lv_at hl 1 rfl) ?_
  refine lv_aload_n hx hb dL_law_889 rfl (lv_at hl 3 rfl) ?_
  refine lv_iload_n hx hb dL_law_890 rfl (lv_at hl 0 rfl) ?_
  refine lv_iconst (v := 1) hx hb dL_law_891 (by decide) ?_
  refine lv_iadd hx hb dL_law_892 ?_
  refine lv_topi (fun x_3 ex_3 => ?_)
  obtain rfl : x_3 = 1 := ex_3.trans (by decide)
  refine va_sld hx hb hX hbl hbA hS (L := 6) (by unfold vp_in; decide) dL_law_893 ?_
  refine W.eq (g2 := F0 m 894 ls [.int (xs 1), .ref qm, .int (-2)]) rfl ?_
  refine cpVi (rest := [.int (-2)]) ⟨hx, hb, hml, hown, hts⟩ hKN (hP.sub (ws' := [(qm, .inr (12, [.int 0, .ref (v.1 0), .ref (v.1 1), .ref (v.1 2), .ref (v.1 3), .int 0, .ref (v.1 4), .int 0, .int 0, .int 0, .int 0, .int 0, .int 0, .int (-1), .ref (v.1 5), .int 0, .int 0, .int 0, .int 0, .int 0, .int 0, .ref (v.1 6), .ref (v.1 7), .ref (v.1 8), .ref (v.1 9), .int 0, .int 0, .ref (v.1 10), .int 0, .ref (v.1 11), .int 0, .ref (v.1 12), .ref (v.1 13), .ref (v.1 14), .ref (v.1 15)])), ((v.1 0), .inl (cA 1, 122, .inl (fun _ => 0)))]) [2, 3] rfl) (k_X12_matched l D cA qm (v.1 0) (v.1 1) (v.1 2) (v.1 3) (v.1 4) (v.1 5) (v.1 6) (v.1 7) (v.1 8) (v.1 9) (v.1 10) (v.1 11) (v.1 12) (v.1 13) (v.1 14) (v.1 15) (xs 1)) (tb_V tw_1810 tw_1811 tw_1812 tw_114 tw_1813) hdX12_matched ⟨rfl, rfl, Nat.le_of_ble_eq_true rfl, Nat.le_of_ble_eq_true rfl⟩ ⟨Nat.le_of_ble_eq_true rfl, Nat.le_of_ble_eq_true rfl⟩ rfl rfl rfl hl.1 rfl (Nat.le_of_ble_eq_true rfl) dL_law_894 (fun r_4 hr_4 => ?_)
  obtain rfl : r_4 = (-2) := hr_4
  refine lv_icmp_eq (tgt := 2271) hx hb dL_law_897 (by decide) (fun c_5 => ?_) (fun c_5 => absurd (by decide) c_5)
  exact lawEnd l C0 hS (Nat.le_of_ble_eq_true rfl) (Nat.le_of_ble_eq_true rfl) (lv_sub hl [0, 1, 2, 3] rfl)
set_option maxHeartbeats 4000000 in
set_option maxRecDepth 100000 in
theorem law_c24 {p : Program} {e : Env} {s : State} {m : MethodId} {below : List Frame} {meth : Method} {c : Code} (l : Launch) {b : Nat} {xs : Nat → Int32} (C0 : lw_At p s m meth c b 6 xs) (D : va_G) (cA : Nat → ClassId) (hKN : KN D cA s) {H : Heap} {locs : List Loc} {ls : Array Slot} (qx qm : Nat) (u v : SU) (hP : va_P D vwCl (wXM cA qx qm u v) H) (hD : va_D (fun q : Nat => s.heap.size ≤ q) (wXM cA qx qm u v)) (hS : va_S (fun q : Nat => s.heap.size ≤ q) s.heap H locs) (hl : lv_has ls 4 [(3, .int 0), (2, .ref qm), (1, .ref qx), (0, .ref b)]) : W p l e room_1 s m #[Value.ref b] below meth c H locs 104 9712 (lw_Z below #[Value.ref b] s) (F0 m 902 ls []) := by
  obtain ⟨hx, hb, hr, hml, hown, hts0, hX, hbl, hlocks, hgv⟩ := id C0
  have hts : ∀ w ∈ TB, w.before _ s = true := fun w h => hts0 w (List.mem_filter.mp h).1
  have hb : c.code = cL_law := hb
  have hown : s.vm.findClass "WristTreatyLaw" = some m.cls := hown
  have hA : ∀ q : Nat, s.heap.size ≤ q → (fun q : Nat => s.heap.size ≤ q) q := fun _ h => h
  have hbA : ¬ (fun q : Nat => s.heap.size ≤ q) b := Nat.not_le.mpr hbl
  have hP := hP.sub (ws' := [(qx, .inr (11, [.ref (u.1 0), .ref (u.1 2), .ref (u.1 13), .ref (u.1 22), .ref (u.1 26), .ref (u.1 69), .ref (u.1 73), .ref (u.1 74), .ref (u.1 77), .ref (u.1 79), .ref (u.1 83)])), ((u.1 13), .inr (3, [.int 0, .int 0, .int 0, .int 0, .int 0, .int 0, .int 0, .int 0, .ref (u.1 14), .ref (u.1 15), .ref (u.1 16), .ref (u.1 17), .ref (u.1 18), .ref (u.1 19), .ref (u.1 20), .ref (u.1 21)])), (qm, .inr (12, [.int 0, .ref (v.1 0), .ref (v.1 1), .ref (v.1 2), .ref (v.1 3), .int 0, .ref (v.1 4), .int 0, .int 0, .int 0, .int 0, .int 0, .int 0, .int (-1), .ref (v.1 5), .int 0, .int 0, .int 0, .int 0, .int 0, .int 0, .ref (v.1 6), .ref (v.1 7), .ref (v.1 8), .ref (v.1 9), .int 0, .int 0, .ref (v.1 10), .int 0, .ref (v.1 11), .int 0, .ref (v.1 12), .ref (v.1 13), .ref (v.1 14), .ref (v.1 15)])), ((v.1 0), .inl (cA 1, 122, .inl (fun _ => 0)))]) [0, 14, 87, 88] rfl
  have hD := hD.sub (ws' := [(qx, .inr (11, [.ref (u.1 0), .ref (u.1 2), .ref (u.1 13), .ref (u.1 22), .ref (u.1 26), .ref (u.1 69), .ref (u.1 73), .ref (u.1 74), .ref (u.1 77), .ref (u.1 79), .ref (u.1 83)])), ((u.1 13), .inr (3, [.int 0, .int 0, .int 0, .int 0, .int 0, .int 0, .int 0, .int 0, .ref (u.1 14), .ref (u.1 15), .ref (u.1 16), .ref (u.1 17), .ref (u.1 18), .ref (u.1 19), .ref (u.1 20), .ref (u.1 21)])), (qm, .inr (12, [.int 0, .ref (v.1 0), .ref (v.1 1), .ref (v.1 2), .ref (v.1 3), .int 0, .ref (v.1 4), .int 0, .int 0, .int 0, .int 0, .int 0, .int 0, .int (-1), .ref (v.1 5), .int 0, .int 0, .int 0, .int 0, .int 0, .int 0, .ref (v.1 6), .ref (v.1 7), .ref (v.1 8), .ref (v.1 9), .int 0, .int 0, .ref (v.1 10), .int 0, .ref (v.1 11), .int 0, .ref (v.1 12), .ref (v.1 13), .ref (v.1 14), .ref (v.1 15)])), ((v.1 0), .inl (cA 1, 122, .inl (fun _ => 0)))]) [0, 14, 87, 88] (by decide) rfl
  refine lv_aload_n hx hb dL_law_902 rfl (lv_at hl 2 rfl) ?_
  refine cpVi (rest := []) ⟨hx, hb, hml, hown, hts⟩ hKN (hP.sub (ws' := [(qx, .inr (11, [.ref (u.1 0), .ref (u.1 2), .ref (u.1 13), .ref (u.1 22), .ref (u.1 26), .ref (u.1 69), .ref (u.1 73), .ref (u.1 74), .ref (u.1 77), .ref (u.1 79), .ref (u.1 83)])), ((u.1 13), .inr (3, [.int 0, .int 0, .int 0, .int 0, .int 0, .int 0, .int 0, .int 0, .ref (u.1 14), .ref (u.1 15), .ref (u.1 16), .ref (u.1 17), .ref (u.1 18), .ref (u.1 19), .ref (u.1 20), .ref (u.1 21)]))]) [0, 1] rfl) (k_X11_loners l D cA qx (u.1 0) (u.1 2) (u.1 13) (u.1 22) (u.1 26) (u.1 69) (u.1 73) (u.1 74) (u.1 77) (u.1 79) (u.1 83) (u.1 14) (u.1 15) (u.1 16) (u.1 17) (u.1 18) (u.1 19) (u.1 20) (u.1 21)) (tb_V tw_905 tw_906 tw_907 tw_101 tw_908) hdX11_loners ⟨rfl, rfl, Nat.le_of_ble_eq_true rfl, Nat.le_of_ble_eq_true rfl⟩ ⟨Nat.le_of_ble_eq_true rfl, Nat.le_of_ble_eq_true rfl⟩ rfl rfl rfl hl.1 rfl (Nat.le_of_ble_eq_true rfl) dL_law_903 (fun r_1 hr_1 => ?_)
  obtain rfl : r_1 = (-2) := hr_1
  refine lv_aload_n hx hb dL_law_906 rfl (lv_at hl 1 rfl) ?_
  refine cpVi (rest := [.int (-2)]) ⟨hx, hb, hml, hown, hts⟩ hKN (hP.sub (ws' := [(qm, .inr (12, [.int 0, .ref (v.1 0), .ref (v.1 1), .ref (v.1 2), .ref (v.1 3), .int 0, .ref (v.1 4), .int 0, .int 0, .int 0, .int 0, .int 0, .int 0, .int (-1), .ref (v.1 5), .int 0, .int 0, .int 0, .int 0, .int 0, .int 0, .ref (v.1 6), .ref (v.1 7), .ref (v.1 8), .ref (v.1 9), .int 0, .int 0, .ref (v.1 10), .int 0, .ref (v.1 11), .int 0, .ref (v.1 12), .ref (v.1 13), .ref (v.1 14), .ref (v.1 15)])), ((v.1 0), .inl (cA 1, 122, .inl (fun _ => 0)))]) [2, 3] rfl) (k_X12_loners l D cA qm (v.1 0) (v.1 1) (v.1 2) (v.1 3) (v.1 4) (v.1 5) (v.1 6) (v.1 7) (v.1 8) (v.1 9) (v.1 10) (v.1 11) (v.1 12) (v.1 13) (v.1 14) (v.1 15)) (tb_V tw_1818 tw_1819 tw_1820 tw_114 tw_1821) hdX12_loners ⟨rfl, rfl, Nat.le_of_ble_eq_true rfl, Nat.le_of_ble_eq_true rfl⟩ ⟨Nat.le_of_ble_eq_true rfl, Nat.le_of_ble_eq_true rfl⟩ rfl rfl rfl hl.1 rfl (Nat.le_of_ble_eq_true rfl) dL_law_907 (fun r_2 hr_2 => ?_)
  obtain rfl : r_2 = (-2) := hr_2
  refine lv_icmp_eq (tgt := 2271) hx hb dL_law_910 (by decide) (fun c_3 => ?_) (fun c_3 => absurd (by decide) c_3)
  exact lawEnd l C0 hS (Nat.le_of_ble_eq_true rfl) (Nat.le_of_ble_eq_true rfl) (lv_sub hl [0, 1, 2, 3] rfl)
set_option maxHeartbeats 4000000 in
set_option maxRecDepth 100000 in
theorem law_c25 {p : Program} {e : Env} {s : State} {m : MethodId} {below : List Frame} {meth : Method} {c : Code} (l : Launch) {b : Nat} {xs : Nat → Int32} (C0 : lw_At p s m meth c b 6 xs) (D : va_G) (cA : Nat → ClassId) (hKN : KN D cA s) {H : Heap} {locs : List Loc} {ls : Array Slot} (qx qm : Nat) (u v : SU) (hP : va_P D vwCl (wXM cA qx qm u v) H) (hD : va_D (fun q : Nat => s.heap.size ≤ q) (wXM cA qx qm u v)) (hS : va_S (fun q : Nat => s.heap.size ≤ q) s.heap H locs) (hl : lv_has ls 4 [(3, .int 0), (2, .ref qm), (1, .ref qx), (0, .ref b)]) : W p l e room_1 s m #[Value.ref b] below meth c H locs 104 9712 (lw_Z below #[Value.ref b] s) (F0 m 915 ls []) := by
  obtain ⟨hx, hb, hr, hml, hown, hts0, hX, hbl, hlocks, hgv⟩ := id C0
  have hts : ∀ w ∈ TB, w.before _ s = true := fun w h => hts0 w (List.mem_filter.mp h).1
  have hb : c.code = cL_law := hb
  have hown : s.vm.findClass "WristTreatyLaw" = some m.cls := hown
  have hA : ∀ q : Nat, s.heap.size ≤ q → (fun q : Nat => s.heap.size ≤ q) q := fun _ h => h
  have hbA : ¬ (fun q : Nat => s.heap.size ≤ q) b := Nat.not_le.mpr hbl
  have hP := hP.sub (ws' := [(qx, .inr (11, [.ref (u.1 0), .ref (u.1 2), .ref (u.1 13), .ref (u.1 22), .ref (u.1 26), .ref (u.1 69), .ref (u.1 73), .ref (u.1 74), .ref (u.1 77), .ref (u.1 79), .ref (u.1 83)])), ((u.1 13), .inr (3, [.int 0, .int 0, .int 0, .int 0, .int 0, .int 0, .int 0, .int 0, .ref (u.1 14), .ref (u.1 15), .ref (u.1 16), .ref (u.1 17), .ref (u.1 18), .ref (u.1 19), .ref (u.1 20), .ref (u.1 21)])), (qm, .inr (12, [.int 0, .ref (v.1 0), .ref (v.1 1), .ref (v.1 2), .ref (v.1 3), .int 0, .ref (v.1 4), .int 0, .int 0, .int 0, .int 0, .int 0, .int 0, .int (-1), .ref (v.1 5), .int 0, .int 0, .int 0, .int 0, .int 0, .int 0, .ref (v.1 6), .ref (v.1 7), .ref (v.1 8), .ref (v.1 9), .int 0, .int 0, .ref (v.1 10), .int 0, .ref (v.1 11), .int 0, .ref (v.1 12), .ref (v.1 13), .ref (v.1 14), .ref (v.1 15)])), ((v.1 0), .inl (cA 1, 122, .inl (fun _ => 0)))]) [0, 14, 87, 88] rfl
  have hD := hD.sub (ws' := [(qx, .inr (11, [.ref (u.1 0), .ref (u.1 2), .ref (u.1 13), .ref (u.1 22), .ref (u.1 26), .ref (u.1 69), .ref (u.1 73), .ref (u.1 74), .ref (u.1 77), .ref (u.1 79), .ref (u.1 83)])), ((u.1 13), .inr (3, [.int 0, .int 0, .int 0, .int 0, .int 0, .int 0, .int 0, .int 0, .ref (u.1 14), .ref (u.1 15), .ref (u.1 16), .ref (u.1 17), .ref (u.1 18), .ref (u.1 19), .ref (u.1 20), .ref (u.1 21)])), (qm, .inr (12, [.int 0, .ref (v.1 0), .ref (v.1 1), .ref (v.1 2), .ref (v.1 3), .int 0, .ref (v.1 4), .int 0, .int 0, .int 0, .int 0, .int 0, .int 0, .int (-1), .ref (v.1 5), .int 0, .int 0, .int 0, .int 0, .int 0, .int 0, .ref (v.1 6), .ref (v.1 7), .ref (v.1 8), .ref (v.1 9), .int 0, .int 0, .ref (v.1 10), .int 0, .ref (v.1 11), .int 0, .ref (v.1 12), .ref (v.1 13), .ref (v.1 14), .ref (v.1 15)])), ((v.1 0), .inl (cA 1, 122, .inl (fun _ => 0)))]) [0, 14, 87, 88] (by decide) rfl
  refine lv_aload_n hx hb dL_law_915 rfl (lv_at hl 2 rfl) ?_
  refine cpVi (rest := []) ⟨hx, hb, hml, hown, hts⟩ hKN (hP.sub (ws' := [(qx, .inr (11, [.ref (u.1 0), .ref (u.1 2), .ref (u.1 13), .ref (u.1 22), .ref (u.1 26), .ref (u.1 69), .ref (u.1 73), .ref (u.1 74), .ref (u.1 77), .ref (u.1 79), .ref (u.1 83)])), ((u.1 13), .inr (3, [.int 0, .int 0, .int 0, .int 0, .int 0, .int 0, .int 0, .int 0, .ref (u.1 14), .ref (u.1 15), .ref (u.1 16), .ref (u.1 17), .ref (u.1 18), .ref (u.1 19), .ref (u.1 20), .ref (u.1 21)]))]) [0, 1] rfl) (k_X11_fair l D cA qx (u.1 0) (u.1 2) (u.1 13) (u.1 22) (u.1 26) (u.1 69) (u.1 73) (u.1 74) (u.1 77) (u.1 79) (u.1 83) (u.1 14) (u.1 15) (u.1 16) (u.1 17) (u.1 18) (u.1 19) (u.1 20) (u.1 21)) (tb_V tw_909 tw_910 tw_911 tw_101 tw_912) hdX11_fair ⟨rfl, rfl, Nat.le_of_ble_eq_true rfl, Nat.le_of_ble_eq_true rfl⟩ ⟨Nat.le_of_ble_eq_true rfl, Nat.le_of_ble_eq_true rfl⟩ rfl rfl rfl hl.1 rfl (Nat.le_of_ble_eq_true rfl) dL_law_916 (fun r_1 hr_1 => ?_)
  obtain rfl : r_1 = (-2) := hr_1
  refine lv_aload_n hx hb dL_law_919 rfl (lv_at hl 1 rfl) ?_
  refine cpVi (rest := [.int (-2)]) ⟨hx, hb, hml, hown, hts⟩ hKN (hP.sub (ws' := [(qm, .inr (12, [.int 0, .ref (v.1 0), .ref (v.1 1), .ref (v.1 2), .ref (v.1 3), .int 0, .ref (v.1 4), .int 0, .int 0, .int 0, .int 0, .int 0, .int 0, .int (-1), .ref (v.1 5), .int 0, .int 0, .int 0, .int 0, .int 0, .int 0, .ref (v.1 6), .ref (v.1 7), .ref (v.1 8), .ref (v.1 9), .int 0, .int 0, .ref (v.1 10), .int 0, .ref (v.1 11), .int 0, .ref (v.1 12), .ref (v.1 13), .ref (v.1 14), .ref (v.1 15)])), ((v.1 0), .inl (cA 1, 122, .inl (fun _ => 0)))]) [2, 3] rfl) (k_X12_fair l D cA qm (v.1 0) (v.1 1) (v.1 2) (v.1 3) (v.1 4) (v.1 5) (v.1 6) (v.1 7) (v.1 8) (v.1 9) (v.1 10) (v.1 11) (v.1 12) (v.1 13) (v.1 14) (v.1 15)) (tb_V tw_1822 tw_1823 tw_1824 tw_114 tw_1825) hdX12_fair ⟨rfl, rfl, Nat.le_of_ble_eq_true rfl, Nat.le_of_ble_eq_true rfl⟩ ⟨Nat.le_of_ble_eq_true rfl, Nat.le_of_ble_eq_true rfl⟩ rfl rfl rfl hl.1 rfl (Nat.le_of_ble_eq_true rfl) dL_law_920 (fun r_2 hr_2 => ?_)
  obtain rfl : r_2 = (-2) := hr_2
  refine lv_icmp_eq (tgt := 2271) hx hb dL_law_923 (by decide) (fun c_3 => ?_) (fun c_3 => absurd (by decide) c_3)
  exact lawEnd l C0 hS (Nat.le_of_ble_eq_true rfl) (Nat.le_of_ble_eq_true rfl) (lv_sub hl [0, 1, 2, 3] rfl)
set_option maxHeartbeats 4000000 in
set_option maxRecDepth 100000 in
theorem law_c26 {p : Program} {e : Env} {s : State} {m : MethodId} {below : List Frame} {meth : Method} {c : Code} (l : Launch) {b : Nat} {xs : Nat → Int32} (C0 : lw_At p s m meth c b 6 xs) (D : va_G) (cA : Nat → ClassId) (hKN : KN D cA s) {H : Heap} {locs : List Loc} {ls : Array Slot} (qx qm : Nat) (u v : SU) (hP : va_P D vwCl (wXM cA qx qm u v) H) (hD : va_D (fun q : Nat => s.heap.size ≤ q) (wXM cA qx qm u v)) (hS : va_S (fun q : Nat => s.heap.size ≤ q) s.heap H locs) (hl : lv_has ls 4 [(3, .int 0), (2, .ref qm), (1, .ref qx), (0, .ref b)]) : W p l e room_1 s m #[Value.ref b] below meth c H locs 104 9712 (lw_Z below #[Value.ref b] s) (F0 m 928 ls []) := by
  obtain ⟨hx, hb, hr, hml, hown, hts0, hX, hbl, hlocks, hgv⟩ := id C0
  have hts : ∀ w ∈ TB, w.before _ s = true := fun w h => hts0 w (List.mem_filter.mp h).1
  have hb : c.code = cL_law := hb
  have hown : s.vm.findClass "WristTreatyLaw" = some m.cls := hown
  have hA : ∀ q : Nat, s.heap.size ≤ q → (fun q : Nat => s.heap.size ≤ q) q := fun _ h => h
  have hbA : ¬ (fun q : Nat => s.heap.size ≤ q) b := Nat.not_le.mpr hbl
  have hP := hP.sub (ws' := [(qx, .inr (11, [.ref (u.1 0), .ref (u.1 2), .ref (u.1 13), .ref (u.1 22), .ref (u.1 26), .ref (u.1 69), .ref (u.1 73), .ref (u.1 74), .ref (u.1 77), .ref (u.1 79), .ref (u.1 83)])), ((u.1 13), .inr (3, [.int 0, .int 0, .int 0, .int 0, .int 0, .int 0, .int 0, .int 0, .ref (u.1 14), .ref (u.1 15), .ref (u.1 16), .ref (u.1 17), .ref (u.1 18), .ref (u.1 19), .ref (u.1 20), .ref (u.1 21)])), (qm, .inr (12, [.int 0, .ref (v.1 0), .ref (v.1 1), .ref (v.1 2), .ref (v.1 3), .int 0, .ref (v.1 4), .int 0, .int 0, .int 0, .int 0, .int 0, .int 0, .int (-1), .ref (v.1 5), .int 0, .int 0, .int 0, .int 0, .int 0, .int 0, .ref (v.1 6), .ref (v.1 7), .ref (v.1 8), .ref (v.1 9), .int 0, .int 0, .ref (v.1 10), .int 0, .ref (v.1 11), .int 0, .ref (v.1 12), .ref (v.1 13), .ref (v.1 14), .ref (v.1 15)])), ((v.1 0), .inl (cA 1, 122, .inl (fun _ => 0)))]) [0, 14, 87, 88] rfl
  have hD := hD.sub (ws' := [(qx, .inr (11, [.ref (u.1 0), .ref (u.1 2), .ref (u.1 13), .ref (u.1 22), .ref (u.1 26), .ref (u.1 69), .ref (u.1 73), .ref (u.1 74), .ref (u.1 77), .ref (u.1 79), .ref (u.1 83)])), ((u.1 13), .inr (3, [.int 0, .int 0, .int 0, .int 0, .int 0, .int 0, .int 0, .int 0, .ref (u.1 14), .ref (u.1 15), .ref (u.1 16), .ref (u.1 17), .ref (u.1 18), .ref (u.1 19), .ref (u.1 20), .ref (u.1 21)])), (qm, .inr (12, [.int 0, .ref (v.1 0), .ref (v.1 1), .ref (v.1 2), .ref (v.1 3), .int 0, .ref (v.1 4), .int 0, .int 0, .int 0, .int 0, .int 0, .int 0, .int (-1), .ref (v.1 5), .int 0, .int 0, .int 0, .int 0, .int 0, .int 0, .ref (v.1 6), .ref (v.1 7), .ref (v.1 8), .ref (v.1 9), .int 0, .int 0, .ref (v.1 10), .int 0, .ref (v.1 11), .int 0, .ref (v.1 12), .ref (v.1 13), .ref (v.1 14), .ref (v.1 15)])), ((v.1 0), .inl (cA 1, 122, .inl (fun _ => 0)))]) [0, 14, 87, 88] (by decide) rfl
  refine lv_aload_n hx hb dL_law_928 rfl (lv_at hl 2 rfl) ?_
  refine lv_aload_n hx hb dL_law_929 rfl (lv_at hl 3 rfl) ?_
  refine lv_iload_n hx hb dL_law_930 rfl (lv_at hl 0 rfl) ?_
  refine lv_iconst (v := 1) hx hb dL_law_931 (by decide) ?_
  refine lv_iadd hx hb dL_law_932 ?_
  refine lv_topi (fun x_1 ex_1 => ?_)
  obtain rfl : x_1 = 1 := ex_1.trans (by decide)
  refine va_sld hx hb hX hbl hbA hS (L := 6) (by unfold vp_in; decide) dL_law_933 ?_
  refine W.eq (g2 := F0 m 934 ls [.int (xs 1), .ref qx]) rfl ?_
  refine lv_aload_n hx hb dL_law_934 rfl (lv_at hl 3 rfl) ?_
  refine lv_iload_n hx hb dL_law_935 rfl (lv_at hl 0 rfl) ?_
  refine lv_iconst (v := 2) hx hb dL_law_936 (by decide) ?_
  refine lv_iadd hx hb dL_law_937 ?_
  refine lv_topi (fun x_2 ex_2 => ?_)
  obtain rfl : x_2 = 2 := ex_2.trans (by decide)
  refine va_sld hx hb hX hbl hbA hS (L := 6) (by unfold vp_in; decide) dL_law_938 ?_
  refine W.eq (g2 := F0 m 939 ls [.int (xs 2), .int (xs 1), .ref qx]) rfl ?_
  refine lv_aload_n hx hb dL_law_939 rfl (lv_at hl 3 rfl) ?_
  refine lv_iload_n hx hb dL_law_940 rfl (lv_at hl 0 rfl) ?_
  refine lv_iconst (v := 3) hx hb dL_law_941 (by decide) ?_
  refine lv_iadd hx hb dL_law_942 ?_
  refine lv_topi (fun x_3 ex_3 => ?_)
  obtain rfl : x_3 = 3 := ex_3.trans (by decide)
  refine va_sld hx hb hX hbl hbA hS (L := 6) (by unfold vp_in; decide) dL_law_943 ?_
  refine W.eq (g2 := F0 m 944 ls [.int (xs 3), .int (xs 2), .int (xs 1), .ref qx]) rfl ?_
  refine cpVi (rest := []) ⟨hx, hb, hml, hown, hts⟩ hKN (hP.sub (ws' := [(qx, .inr (11, [.ref (u.1 0), .ref (u.1 2), .ref (u.1 13), .ref (u.1 22), .ref (u.1 26), .ref (u.1 69), .ref (u.1 73), .ref (u.1 74), .ref (u.1 77), .ref (u.1 79), .ref (u.1 83)])), ((u.1 13), .inr (3, [.int 0, .int 0, .int 0, .int 0, .int 0, .int 0, .int 0, .int 0, .ref (u.1 14), .ref (u.1 15), .ref (u.1 16), .ref (u.1 17), .ref (u.1 18), .ref (u.1 19), .ref (u.1 20), .ref (u.1 21)]))]) [0, 1] rfl) (k_X11_resin l D cA qx (u.1 0) (u.1 2) (u.1 13) (u.1 22) (u.1 26) (u.1 69) (u.1 73) (u.1 74) (u.1 77) (u.1 79) (u.1 83) (u.1 14) (u.1 15) (u.1 16) (u.1 17) (u.1 18) (u.1 19) (u.1 20) (u.1 21) (xs 1) (xs 2) (xs 3)) (tb_V tw_913 tw_914 tw_915 tw_101 tw_916) hdX11_resin ⟨rfl, rfl, Nat.le_of_ble_eq_true rfl, Nat.le_of_ble_eq_true rfl⟩ ⟨Nat.le_of_ble_eq_true rfl, Nat.le_of_ble_eq_true rfl⟩ rfl rfl rfl hl.1 rfl (Nat.le_of_ble_eq_true rfl) dL_law_944 (fun r_4 hr_4 => ?_)
  obtain rfl : r_4 = (-2) := hr_4
  refine lv_aload_n hx hb dL_law_947 rfl (lv_at hl 1 rfl) ?_
  refine lv_aload_n hx hb dL_law_948 rfl (lv_at hl 3 rfl) ?_
  refine lv_iload_n hx hb dL_law_949 rfl (lv_at hl 0 rfl) ?_
  refine lv_iconst (v := 1) hx hb dL_law_950 (by decide) ?_
  refine lv_iadd hx hb dL_law_951 ?_
  refine lv_topi (fun x_5 ex_5 => ?_)
  obtain rfl : x_5 = 1 := ex_5.trans (by decide)
  refine va_sld hx hb hX hbl hbA hS (L := 6) (by unfold vp_in; decide) dL_law_952 ?_
  refine W.eq (g2 := F0 m 953 ls [.int (xs 1), .ref qm, .int (-2)]) rfl ?_
  refine lv_aload_n hx hb dL_law_953 rfl (lv_at hl 3 rfl) ?_
  refine lv_iload_n hx hb dL_law_954 rfl (lv_at hl 0 rfl) ?_
  refine lv_iconst (v := 2) hx hb dL_law_955 (by decide) ?_
  refine lv_iadd hx hb dL_law_956 ?_
  refine lv_topi (fun x_6 ex_6 => ?_)
  obtain rfl : x_6 = 2 := ex_6.trans (by decide)
  refine va_sld hx hb hX hbl hbA hS (L := 6) (by unfold vp_in; decide) dL_law_957 ?_
  refine W.eq (g2 := F0 m 958 ls [.int (xs 2), .int (xs 1), .ref qm, .int (-2)]) rfl ?_
  refine lv_aload_n hx hb dL_law_958 rfl (lv_at hl 3 rfl) ?_
  refine lv_iload_n hx hb dL_law_959 rfl (lv_at hl 0 rfl) ?_
  refine lv_iconst (v := 3) hx hb dL_law_960 (by decide) ?_
  refine lv_iadd hx hb dL_law_961 ?_
  refine lv_topi (fun x_7 ex_7 => ?_)
  obtain rfl : x_7 = 3 := ex_7.trans (by decide)
  refine va_sld hx hb hX hbl hbA hS (L := 6) (by unfold vp_in; decide) dL_law_962 ?_
  refine W.eq (g2 := F0 m 963 ls [.int (xs 3), .int (xs 2), .int (xs 1), .ref qm, .int (-2)]) rfl ?_
  refine cpVi (rest := [.int (-2)]) ⟨hx, hb, hml, hown, hts⟩ hKN (hP.sub (ws' := [(qm, .inr (12, [.int 0, .ref (v.1 0), .ref (v.1 1), .ref (v.1 2), .ref (v.1 3), .int 0, .ref (v.1 4), .int 0, .int 0, .int 0, .int 0, .int 0, .int 0, .int (-1), .ref (v.1 5), .int 0, .int 0, .int 0, .int 0, .int 0, .int 0, .ref (v.1 6), .ref (v.1 7), .ref (v.1 8), .ref (v.1 9), .int 0, .int 0, .ref (v.1 10), .int 0, .ref (v.1 11), .int 0, .ref (v.1 12), .ref (v.1 13), .ref (v.1 14), .ref (v.1 15)])), ((v.1 0), .inl (cA 1, 122, .inl (fun _ => 0)))]) [2, 3] rfl) (k_X12_resin l D cA qm (v.1 0) (v.1 1) (v.1 2) (v.1 3) (v.1 4) (v.1 5) (v.1 6) (v.1 7) (v.1 8) (v.1 9) (v.1 10) (v.1 11) (v.1 12) (v.1 13) (v.1 14) (v.1 15) (xs 1) (xs 2) (xs 3)) (tb_V tw_1826 tw_1827 tw_1828 tw_114 tw_1829) hdX12_resin ⟨rfl, rfl, Nat.le_of_ble_eq_true rfl, Nat.le_of_ble_eq_true rfl⟩ ⟨Nat.le_of_ble_eq_true rfl, Nat.le_of_ble_eq_true rfl⟩ rfl rfl rfl hl.1 rfl (Nat.le_of_ble_eq_true rfl) dL_law_963 (fun r_8 hr_8 => ?_)
  obtain rfl : r_8 = (-2) := hr_8
  refine lv_icmp_eq (tgt := 2271) hx hb dL_law_966 (by decide) (fun c_9 => ?_) (fun c_9 => absurd (by decide) c_9)
  exact lawEnd l C0 hS (Nat.le_of_ble_eq_true rfl) (Nat.le_of_ble_eq_true rfl) (lv_sub hl [0, 1, 2, 3] rfl)
set_option maxHeartbeats 4000000 in
set_option maxRecDepth 100000 in
theorem law_c27 {p : Program} {e : Env} {s : State} {m : MethodId} {below : List Frame} {meth : Method} {c : Code} (l : Launch) {b : Nat} {xs : Nat → Int32} (C0 : lw_At p s m meth c b 6 xs) (D : va_G) (cA : Nat → ClassId) (hKN : KN D cA s) {H : Heap} {locs : List Loc} {ls : Array Slot} (qx qm : Nat) (u v : SU) (hP : va_P D vwCl (wXM cA qx qm u v) H) (hD : va_D (fun q : Nat => s.heap.size ≤ q) (wXM cA qx qm u v)) (hS : va_S (fun q : Nat => s.heap.size ≤ q) s.heap H locs) (hl : lv_has ls 4 [(3, .int 0), (2, .ref qm), (1, .ref qx), (0, .ref b)]) : W p l e room_1 s m #[Value.ref b] below meth c H locs 104 9712 (lw_Z below #[Value.ref b] s) (F0 m 971 ls []) := by
  obtain ⟨hx, hb, hr, hml, hown, hts0, hX, hbl, hlocks, hgv⟩ := id C0
  have hts : ∀ w ∈ TB, w.before _ s = true := fun w h => hts0 w (List.mem_filter.mp h).1
  have hb : c.code = cL_law := hb
  have hown : s.vm.findClass "WristTreatyLaw" = some m.cls := hown
  have hA : ∀ q : Nat, s.heap.size ≤ q → (fun q : Nat => s.heap.size ≤ q) q := fun _ h => h
  have hbA : ¬ (fun q : Nat => s.heap.size ≤ q) b := Nat.not_le.mpr hbl
  have hP := hP.sub (ws' := [(qx, .inr (11, [.ref (u.1 0), .ref (u.1 2), .ref (u.1 13), .ref (u.1 22), .ref (u.1 26), .ref (u.1 69), .ref (u.1 73), .ref (u.1 74), .ref (u.1 77), .ref (u.1 79), .ref (u.1 83)])), ((u.1 13), .inr (3, [.int 0, .int 0, .int 0, .int 0, .int 0, .int 0, .int 0, .int 0, .ref (u.1 14), .ref (u.1 15), .ref (u.1 16), .ref (u.1 17), .ref (u.1 18), .ref (u.1 19), .ref (u.1 20), .ref (u.1 21)])), (qm, .inr (12, [.int 0, .ref (v.1 0), .ref (v.1 1), .ref (v.1 2), .ref (v.1 3), .int 0, .ref (v.1 4), .int 0, .int 0, .int 0, .int 0, .int 0, .int 0, .int (-1), .ref (v.1 5), .int 0, .int 0, .int 0, .int 0, .int 0, .int 0, .ref (v.1 6), .ref (v.1 7), .ref (v.1 8), .ref (v.1 9), .int 0, .int 0, .ref (v.1 10), .int 0, .ref (v.1 11), .int 0, .ref (v.1 12), .ref (v.1 13), .ref (v.1 14), .ref (v.1 15)])), ((v.1 0), .inl (cA 1, 122, .inl (fun _ => 0)))]) [0, 14, 87, 88] rfl
  have hD := hD.sub (ws' := [(qx, .inr (11, [.ref (u.1 0), .ref (u.1 2), .ref (u.1 13), .ref (u.1 22), .ref (u.1 26), .ref (u.1 69), .ref (u.1 73), .ref (u.1 74), .ref (u.1 77), .ref (u.1 79), .ref (u.1 83)])), ((u.1 13), .inr (3, [.int 0, .int 0, .int 0, .int 0, .int 0, .int 0, .int 0, .int 0, .ref (u.1 14), .ref (u.1 15), .ref (u.1 16), .ref (u.1 17), .ref (u.1 18), .ref (u.1 19), .ref (u.1 20), .ref (u.1 21)])), (qm, .inr (12, [.int 0, .ref (v.1 0), .ref (v.1 1), .ref (v.1 2), .ref (v.1 3), .int 0, .ref (v.1 4), .int 0, .int 0, .int 0, .int 0, .int 0, .int 0, .int (-1), .ref (v.1 5), .int 0, .int 0, .int 0, .int 0, .int 0, .int 0, .ref (v.1 6), .ref (v.1 7), .ref (v.1 8), .ref (v.1 9), .int 0, .int 0, .ref (v.1 10), .int 0, .ref (v.1 11), .int 0, .ref (v.1 12), .ref (v.1 13), .ref (v.1 14), .ref (v.1 15)])), ((v.1 0), .inl (cA 1, 122, .inl (fun _ => 0)))]) [0, 14, 87, 88] (by decide) rfl
  refine lv_aload_n hx hb dL_law_971 rfl (lv_at hl 2 rfl) ?_
  refine lv_aload_n hx hb dL_law_972 rfl (lv_at hl 3 rfl) ?_
  refine lv_iload_n hx hb dL_law_973 rfl (lv_at hl 0 rfl) ?_
  refine lv_iconst (v := 1) hx hb dL_law_974 (by decide) ?_
  refine lv_iadd hx hb dL_law_975 ?_
  refine lv_topi (fun x_1 ex_1 => ?_)
  obtain rfl : x_1 = 1 := ex_1.trans (by decide)
  refine va_sld hx hb hX hbl hbA hS (L := 6) (by unfold vp_in; decide) dL_law_976 ?_
  refine W.eq (g2 := F0 m 977 ls [.int (xs 1), .ref qx]) rfl ?_
  refine lv_aload_n hx hb dL_law_977 rfl (lv_at hl 3 rfl) ?_
  refine lv_iload_n hx hb dL_law_978 rfl (lv_at hl 0 rfl) ?_
  refine lv_iconst (v := 2) hx hb dL_law_979 (by decide) ?_
  refine lv_iadd hx hb dL_law_980 ?_
  refine lv_topi (fun x_2 ex_2 => ?_)
  obtain rfl : x_2 = 2 := ex_2.trans (by decide)
  refine va_sld hx hb hX hbl hbA hS (L := 6) (by unfold vp_in; decide) dL_law_981 ?_
  refine W.eq (g2 := F0 m 982 ls [.int (xs 2), .int (xs 1), .ref qx]) rfl ?_
  refine cpVi (rest := []) ⟨hx, hb, hml, hown, hts⟩ hKN (hP.sub (ws' := [(qx, .inr (11, [.ref (u.1 0), .ref (u.1 2), .ref (u.1 13), .ref (u.1 22), .ref (u.1 26), .ref (u.1 69), .ref (u.1 73), .ref (u.1 74), .ref (u.1 77), .ref (u.1 79), .ref (u.1 83)])), ((u.1 13), .inr (3, [.int 0, .int 0, .int 0, .int 0, .int 0, .int 0, .int 0, .int 0, .ref (u.1 14), .ref (u.1 15), .ref (u.1 16), .ref (u.1 17), .ref (u.1 18), .ref (u.1 19), .ref (u.1 20), .ref (u.1 21)]))]) [0, 1] rfl) (k_X11_spare l D cA qx (u.1 0) (u.1 2) (u.1 13) (u.1 22) (u.1 26) (u.1 69) (u.1 73) (u.1 74) (u.1 77) (u.1 79) (u.1 83) (u.1 14) (u.1 15) (u.1 16) (u.1 17) (u.1 18) (u.1 19) (u.1 20) (u.1 21) (xs 1) (xs 2)) (tb_V tw_922 tw_923 tw_924 tw_101 tw_925) hdX11_spare ⟨rfl, rfl, Nat.le_of_ble_eq_true rfl, Nat.le_of_ble_eq_true rfl⟩ ⟨Nat.le_of_ble_eq_true rfl, Nat.le_of_ble_eq_true rfl⟩ rfl rfl rfl hl.1 rfl (Nat.le_of_ble_eq_true rfl) dL_law_982 (fun r_3 hr_3 => ?_)
  obtain rfl : r_3 = (-2) := hr_3
  refine lv_aload_n hx hb dL_law_985 rfl (lv_at hl 1 rfl) ?_
  refine lv_aload_n hx hb dL_law_986 rfl (lv_at hl 3 rfl) ?_
  refine lv_iload_n hx hb dL_law_987 rfl (lv_at hl 0 rfl) ?_
  refine lv_iconst (v := 1) hx hb dL_law_988 (by decide) ?_
  refine lv_iadd hx hb dL_law_989 ?_
  refine lv_topi (fun x_4 ex_4 => ?_)
  obtain rfl : x_4 = 1 := ex_4.trans (by decide)
  refine va_sld hx hb hX hbl hbA hS (L := 6) (by unfold vp_in; decide) dL_law_990 ?_
  refine W.eq (g2 := F0 m 991 ls [.int (xs 1), .ref qm, .int (-2)]) rfl ?_
  refine lv_aload_n hx hb dL_law_991 rfl (lv_at hl 3 rfl) ?_
  refine lv_iload_n hx hb dL_law_992 rfl (lv_at hl 0 rfl) ?_
  refine lv_iconst (v := 2) hx hb dL_law_993 (by decide) ?_
  refine lv_iadd hx hb dL_law_994 ?_
  refine lv_topi (fun x_5 ex_5 => ?_)
  obtain rfl : x_5 = 2 := ex_5.trans (by decide)
  refine va_sld hx hb hX hbl hbA hS (L := 6) (by unfold vp_in; decide) dL_law_995 ?_
  refine W.eq (g2 := F0 m 996 ls [.int (xs 2), .int (xs 1), .ref qm, .int (-2)]) rfl ?_
  refine cpVi (rest := [.int (-2)]) ⟨hx, hb, hml, hown, hts⟩ hKN (hP.sub (ws' := [(qm, .inr (12, [.int 0, .ref (v.1 0), .ref (v.1 1), .ref (v.1 2), .ref (v.1 3), .int 0, .ref (v.1 4), .int 0, .int 0, .int 0, .int 0, .int 0, .int 0, .int (-1), .ref (v.1 5), .int 0, .int 0, .int 0, .int 0, .int 0, .int 0, .ref (v.1 6), .ref (v.1 7), .ref (v.1 8), .ref (v.1 9), .int 0, .int 0, .ref (v.1 10), .int 0, .ref (v.1 11), .int 0, .ref (v.1 12), .ref (v.1 13), .ref (v.1 14), .ref (v.1 15)])), ((v.1 0), .inl (cA 1, 122, .inl (fun _ => 0)))]) [2, 3] rfl) (k_X12_spare l D cA qm (v.1 0) (v.1 1) (v.1 2) (v.1 3) (v.1 4) (v.1 5) (v.1 6) (v.1 7) (v.1 8) (v.1 9) (v.1 10) (v.1 11) (v.1 12) (v.1 13) (v.1 14) (v.1 15) (xs 1) (xs 2)) (tb_V tw_1834 tw_1835 tw_1836 tw_114 tw_1837) hdX12_spare ⟨rfl, rfl, Nat.le_of_ble_eq_true rfl, Nat.le_of_ble_eq_true rfl⟩ ⟨Nat.le_of_ble_eq_true rfl, Nat.le_of_ble_eq_true rfl⟩ rfl rfl rfl hl.1 rfl (Nat.le_of_ble_eq_true rfl) dL_law_996 (fun r_6 hr_6 => ?_)
  obtain rfl : r_6 = (-2) := hr_6
  refine lv_icmp_eq (tgt := 2271) hx hb dL_law_999 (by decide) (fun c_7 => ?_) (fun c_7 => absurd (by decide) c_7)
  exact lawEnd l C0 hS (Nat.le_of_ble_eq_true rfl) (Nat.le_of_ble_eq_true rfl) (lv_sub hl [0, 1, 2, 3] rfl)
set_option maxHeartbeats 4000000 in
set_option maxRecDepth 100000 in
theorem law_c28 {p : Program} {e : Env} {s : State} {m : MethodId} {below : List Frame} {meth : Method} {c : Code} (l : Launch) {b : Nat} {xs : Nat → Int32} (C0 : lw_At p s m meth c b 6 xs) (D : va_G) (cA : Nat → ClassId) (hKN : KN D cA s) {H : Heap} {locs : List Loc} {ls : Array Slot} (qx qm : Nat) (u v : SU) (hP : va_P D vwCl (wXM cA qx qm u v) H) (hD : va_D (fun q : Nat => s.heap.size ≤ q) (wXM cA qx qm u v)) (hS : va_S (fun q : Nat => s.heap.size ≤ q) s.heap H locs) (hl : lv_has ls 4 [(3, .int 0), (2, .ref qm), (1, .ref qx), (0, .ref b)]) : W p l e room_1 s m #[Value.ref b] below meth c H locs 104 9712 (lw_Z below #[Value.ref b] s) (F0 m 1004 ls []) := by
  obtain ⟨hx, hb, hr, hml, hown, hts0, hX, hbl, hlocks, hgv⟩ := id C0
  have hts : ∀ w ∈ TB, w.before _ s = true := fun w h => hts0 w (List.mem_filter.mp h).1
  have hb : c.code = cL_law := hb
  have hown : s.vm.findClass "WristTreatyLaw" = some m.cls := hown
  have hA : ∀ q : Nat, s.heap.size ≤ q → (fun q : Nat => s.heap.size ≤ q) q := fun _ h => h
  have hbA : ¬ (fun q : Nat => s.heap.size ≤ q) b := Nat.not_le.mpr hbl
  have hP := hP.sub (ws' := [(qx, .inr (11, [.ref (u.1 0), .ref (u.1 2), .ref (u.1 13), .ref (u.1 22), .ref (u.1 26), .ref (u.1 69), .ref (u.1 73), .ref (u.1 74), .ref (u.1 77), .ref (u.1 79), .ref (u.1 83)])), ((u.1 13), .inr (3, [.int 0, .int 0, .int 0, .int 0, .int 0, .int 0, .int 0, .int 0, .ref (u.1 14), .ref (u.1 15), .ref (u.1 16), .ref (u.1 17), .ref (u.1 18), .ref (u.1 19), .ref (u.1 20), .ref (u.1 21)])), (qm, .inr (12, [.int 0, .ref (v.1 0), .ref (v.1 1), .ref (v.1 2), .ref (v.1 3), .int 0, .ref (v.1 4), .int 0, .int 0, .int 0, .int 0, .int 0, .int 0, .int (-1), .ref (v.1 5), .int 0, .int 0, .int 0, .int 0, .int 0, .int 0, .ref (v.1 6), .ref (v.1 7), .ref (v.1 8), .ref (v.1 9), .int 0, .int 0, .ref (v.1 10), .int 0, .ref (v.1 11), .int 0, .ref (v.1 12), .ref (v.1 13), .ref (v.1 14), .ref (v.1 15)])), ((v.1 0), .inl (cA 1, 122, .inl (fun _ => 0)))]) [0, 14, 87, 88] rfl
  have hD := hD.sub (ws' := [(qx, .inr (11, [.ref (u.1 0), .ref (u.1 2), .ref (u.1 13), .ref (u.1 22), .ref (u.1 26), .ref (u.1 69), .ref (u.1 73), .ref (u.1 74), .ref (u.1 77), .ref (u.1 79), .ref (u.1 83)])), ((u.1 13), .inr (3, [.int 0, .int 0, .int 0, .int 0, .int 0, .int 0, .int 0, .int 0, .ref (u.1 14), .ref (u.1 15), .ref (u.1 16), .ref (u.1 17), .ref (u.1 18), .ref (u.1 19), .ref (u.1 20), .ref (u.1 21)])), (qm, .inr (12, [.int 0, .ref (v.1 0), .ref (v.1 1), .ref (v.1 2), .ref (v.1 3), .int 0, .ref (v.1 4), .int 0, .int 0, .int 0, .int 0, .int 0, .int 0, .int (-1), .ref (v.1 5), .int 0, .int 0, .int 0, .int 0, .int 0, .int 0, .ref (v.1 6), .ref (v.1 7), .ref (v.1 8), .ref (v.1 9), .int 0, .int 0, .ref (v.1 10), .int 0, .ref (v.1 11), .int 0, .ref (v.1 12), .ref (v.1 13), .ref (v.1 14), .ref (v.1 15)])), ((v.1 0), .inl (cA 1, 122, .inl (fun _ => 0)))]) [0, 14, 87, 88] (by decide) rfl
  refine lv_aload_n hx hb dL_law_1004 rfl (lv_at hl 2 rfl) ?_
  refine lv_aload_n hx hb dL_law_1005 rfl (lv_at hl 3 rfl) ?_
  refine lv_iload_n hx hb dL_law_1006 rfl (lv_at hl 0 rfl) ?_
  refine lv_iconst (v := 1) hx hb dL_law_1007 (by decide) ?_
  refine lv_iadd hx hb dL_law_1008 ?_
  refine lv_topi (fun x_1 ex_1 => ?_)
  obtain rfl : x_1 = 1 := ex_1.trans (by decide)
  refine va_sld hx hb hX hbl hbA hS (L := 6) (by unfold vp_in; decide) dL_law_1009 ?_
  refine W.eq (g2 := F0 m 1010 ls [.int (xs 1), .ref qx]) rfl ?_
  refine lv_aload_n hx hb dL_law_1010 rfl (lv_at hl 3 rfl) ?_
  refine lv_iload_n hx hb dL_law_1011 rfl (lv_at hl 0 rfl) ?_
  refine lv_iconst (v := 2) hx hb dL_law_1012 (by decide) ?_
  refine lv_iadd hx hb dL_law_1013 ?_
  refine lv_topi (fun x_2 ex_2 => ?_)
  obtain rfl : x_2 = 2 := ex_2.trans (by decide)
  refine va_sld hx hb hX hbl hbA hS (L := 6) (by unfold vp_in; decide) dL_law_1014 ?_
  refine W.eq (g2 := F0 m 1015 ls [.int (xs 2), .int (xs 1), .ref qx]) rfl ?_
  refine cpVi (rest := []) ⟨hx, hb, hml, hown, hts⟩ hKN (hP.sub (ws' := [(qx, .inr (11, [.ref (u.1 0), .ref (u.1 2), .ref (u.1 13), .ref (u.1 22), .ref (u.1 26), .ref (u.1 69), .ref (u.1 73), .ref (u.1 74), .ref (u.1 77), .ref (u.1 79), .ref (u.1 83)])), ((u.1 13), .inr (3, [.int 0, .int 0, .int 0, .int 0, .int 0, .int 0, .int 0, .int 0, .ref (u.1 14), .ref (u.1 15), .ref (u.1 16), .ref (u.1 17), .ref (u.1 18), .ref (u.1 19), .ref (u.1 20), .ref (u.1 21)]))]) [0, 1] rfl) (k_X11_cut l D cA qx (u.1 0) (u.1 2) (u.1 13) (u.1 22) (u.1 26) (u.1 69) (u.1 73) (u.1 74) (u.1 77) (u.1 79) (u.1 83) (u.1 14) (u.1 15) (u.1 16) (u.1 17) (u.1 18) (u.1 19) (u.1 20) (u.1 21) (xs 1) (xs 2)) (tb_V tw_926 tw_927 tw_928 tw_101 tw_929) hdX11_cut ⟨rfl, rfl, Nat.le_of_ble_eq_true rfl, Nat.le_of_ble_eq_true rfl⟩ ⟨Nat.le_of_ble_eq_true rfl, Nat.le_of_ble_eq_true rfl⟩ rfl rfl rfl hl.1 rfl (Nat.le_of_ble_eq_true rfl) dL_law_1015 (fun r_3 hr_3 => ?_)
  obtain rfl : r_3 = (-2) := hr_3
  refine lv_aload_n hx hb dL_law_1018 rfl (lv_at hl 1 rfl) ?_
  refine lv_aload_n hx hb dL_law_1019 rfl (lv_at hl 3 rfl) ?_
  refine lv_iload_n hx hb dL_law_1020 rfl (lv_at hl 0 rfl) ?_
  refine lv_iconst (v := 1) hx hb dL_law_1021 (by decide) ?_
  refine lv_iadd hx hb dL_law_1022 ?_
  refine lv_topi (fun x_4 ex_4 => ?_)
  obtain rfl : x_4 = 1 := ex_4.trans (by decide)
  refine va_sld hx hb hX hbl hbA hS (L := 6) (by unfold vp_in; decide) dL_law_1023 ?_
  refine W.eq (g2 := F0 m 1024 ls [.int (xs 1), .ref qm, .int (-2)]) rfl ?_
  refine lv_aload_n hx hb dL_law_1024 rfl (lv_at hl 3 rfl) ?_
  refine lv_iload_n hx hb dL_law_1025 rfl (lv_at hl 0 rfl) ?_
  refine lv_iconst (v := 2) hx hb dL_law_1026 (by decide) ?_
  refine lv_iadd hx hb dL_law_1027 ?_
  refine lv_topi (fun x_5 ex_5 => ?_)
  obtain rfl : x_5 = 2 := ex_5.trans (by decide)
  refine va_sld hx hb hX hbl hbA hS (L := 6) (by unfold vp_in; decide) dL_law_1028 ?_
  refine W.eq (g2 := F0 m 1029 ls [.int (xs 2), .int (xs 1), .ref qm, .int (-2)]) rfl ?_
  refine cpVi (rest := [.int (-2)]) ⟨hx, hb, hml, hown, hts⟩ hKN (hP.sub (ws' := [(qm, .inr (12, [.int 0, .ref (v.1 0), .ref (v.1 1), .ref (v.1 2), .ref (v.1 3), .int 0, .ref (v.1 4), .int 0, .int 0, .int 0, .int 0, .int 0, .int 0, .int (-1), .ref (v.1 5), .int 0, .int 0, .int 0, .int 0, .int 0, .int 0, .ref (v.1 6), .ref (v.1 7), .ref (v.1 8), .ref (v.1 9), .int 0, .int 0, .ref (v.1 10), .int 0, .ref (v.1 11), .int 0, .ref (v.1 12), .ref (v.1 13), .ref (v.1 14), .ref (v.1 15)])), ((v.1 0), .inl (cA 1, 122, .inl (fun _ => 0)))]) [2, 3] rfl) (k_X12_cut l D cA qm (v.1 0) (v.1 1) (v.1 2) (v.1 3) (v.1 4) (v.1 5) (v.1 6) (v.1 7) (v.1 8) (v.1 9) (v.1 10) (v.1 11) (v.1 12) (v.1 13) (v.1 14) (v.1 15) (xs 1) (xs 2)) (tb_V tw_1838 tw_1839 tw_1840 tw_114 tw_1841) hdX12_cut ⟨rfl, rfl, Nat.le_of_ble_eq_true rfl, Nat.le_of_ble_eq_true rfl⟩ ⟨Nat.le_of_ble_eq_true rfl, Nat.le_of_ble_eq_true rfl⟩ rfl rfl rfl hl.1 rfl (Nat.le_of_ble_eq_true rfl) dL_law_1029 (fun r_6 hr_6 => ?_)
  obtain rfl : r_6 = (-2) := hr_6
  refine lv_icmp_eq (tgt := 2271) hx hb dL_law_1032 (by decide) (fun c_7 => ?_) (fun c_7 => absurd (by decide) c_7)
  exact lawEnd l C0 hS (Nat.le_of_ble_eq_true rfl) (Nat.le_of_ble_eq_true rfl) (lv_sub hl [0, 1, 2, 3] rfl)
set_option maxHeartbeats 4000000 in
set_option maxRecDepth 100000 in
theorem law_c29 {p : Program} {e : Env} {s : State} {m : MethodId} {below : List Frame} {meth : Method} {c : Code} (l : Launch) {b : Nat} {xs : Nat → Int32} (C0 : lw_At p s m meth c b 6 xs) (D : va_G) (cA : Nat → ClassId) (hKN : KN D cA s) {H : Heap} {locs : List Loc} {ls : Array Slot} (qx qm : Nat) (u v : SU) (hP : va_P D vwCl (wXM cA qx qm u v) H) (hD : va_D (fun q : Nat => s.heap.size ≤ q) (wXM cA qx qm u v)) (hS : va_S (fun q : Nat => s.heap.size ≤ q) s.heap H locs) (hl : lv_has ls 4 [(3, .int 0), (2, .ref qm), (1, .ref qx), (0, .ref b)]) : W p l e room_1 s m #[Value.ref b] below meth c H locs 104 9712 (lw_Z below #[Value.ref b] s) (F0 m 1037 ls []) := by
  obtain ⟨hx, hb, hr, hml, hown, hts0, hX, hbl, hlocks, hgv⟩ := id C0
  have hts : ∀ w ∈ TB, w.before _ s = true := fun w h => hts0 w (List.mem_filter.mp h).1
  have hb : c.code = cL_law := hb
  have hown : s.vm.findClass "WristTreatyLaw" = some m.cls := hown
  have hA : ∀ q : Nat, s.heap.size ≤ q → (fun q : Nat => s.heap.size ≤ q) q := fun _ h => h
  have hbA : ¬ (fun q : Nat => s.heap.size ≤ q) b := Nat.not_le.mpr hbl
  have hP := hP.sub (ws' := [(qx, .inr (11, [.ref (u.1 0), .ref (u.1 2), .ref (u.1 13), .ref (u.1 22), .ref (u.1 26), .ref (u.1 69), .ref (u.1 73), .ref (u.1 74), .ref (u.1 77), .ref (u.1 79), .ref (u.1 83)])), ((u.1 13), .inr (3, [.int 0, .int 0, .int 0, .int 0, .int 0, .int 0, .int 0, .int 0, .ref (u.1 14), .ref (u.1 15), .ref (u.1 16), .ref (u.1 17), .ref (u.1 18), .ref (u.1 19), .ref (u.1 20), .ref (u.1 21)])), (qm, .inr (12, [.int 0, .ref (v.1 0), .ref (v.1 1), .ref (v.1 2), .ref (v.1 3), .int 0, .ref (v.1 4), .int 0, .int 0, .int 0, .int 0, .int 0, .int 0, .int (-1), .ref (v.1 5), .int 0, .int 0, .int 0, .int 0, .int 0, .int 0, .ref (v.1 6), .ref (v.1 7), .ref (v.1 8), .ref (v.1 9), .int 0, .int 0, .ref (v.1 10), .int 0, .ref (v.1 11), .int 0, .ref (v.1 12), .ref (v.1 13), .ref (v.1 14), .ref (v.1 15)])), ((v.1 0), .inl (cA 1, 122, .inl (fun _ => 0)))]) [0, 14, 87, 88] rfl
  have hD := hD.sub (ws' := [(qx, .inr (11, [.ref (u.1 0), .ref (u.1 2), .ref (u.1 13), .ref (u.1 22), .ref (u.1 26), .ref (u.1 69), .ref (u.1 73), .ref (u.1 74), .ref (u.1 77), .ref (u.1 79), .ref (u.1 83)])), ((u.1 13), .inr (3, [.int 0, .int 0, .int 0, .int 0, .int 0, .int 0, .int 0, .int 0, .ref (u.1 14), .ref (u.1 15), .ref (u.1 16), .ref (u.1 17), .ref (u.1 18), .ref (u.1 19), .ref (u.1 20), .ref (u.1 21)])), (qm, .inr (12, [.int 0, .ref (v.1 0), .ref (v.1 1), .ref (v.1 2), .ref (v.1 3), .int 0, .ref (v.1 4), .int 0, .int 0, .int 0, .int 0, .int 0, .int 0, .int (-1), .ref (v.1 5), .int 0, .int 0, .int 0, .int 0, .int 0, .int 0, .ref (v.1 6), .ref (v.1 7), .ref (v.1 8), .ref (v.1 9), .int 0, .int 0, .ref (v.1 10), .int 0, .ref (v.1 11), .int 0, .ref (v.1 12), .ref (v.1 13), .ref (v.1 14), .ref (v.1 15)])), ((v.1 0), .inl (cA 1, 122, .inl (fun _ => 0)))]) [0, 14, 87, 88] (by decide) rfl
  refine lv_aload_n hx hb dL_law_1037 rfl (lv_at hl 2 rfl) ?_
  refine lv_aload_n hx hb dL_law_1038 rfl (lv_at hl 3 rfl) ?_
  refine lv_iload_n hx hb dL_law_1039 rfl (lv_at hl 0 rfl) ?_
  refine lv_iconst (v := 1) hx hb dL_law_1040 (by decide) ?_
  refine lv_iadd hx hb dL_law_1041 ?_
  refine lv_topi (fun x_1 ex_1 => ?_)
  obtain rfl : x_1 = 1 := ex_1.trans (by decide)
  refine va_sld hx hb hX hbl hbA hS (L := 6) (by unfold vp_in; decide) dL_law_1042 ?_
  refine W.eq (g2 := F0 m 1043 ls [.int (xs 1), .ref qx]) rfl ?_
  refine lv_aload_n hx hb dL_law_1043 rfl (lv_at hl 3 rfl) ?_
  refine lv_iload_n hx hb dL_law_1044 rfl (lv_at hl 0 rfl) ?_
  refine lv_iconst (v := 2) hx hb dL_law_1045 (by decide) ?_
  refine lv_iadd hx hb dL_law_1046 ?_
  refine lv_topi (fun x_2 ex_2 => ?_)
  obtain rfl : x_2 = 2 := ex_2.trans (by decide)
  refine va_sld hx hb hX hbl hbA hS (L := 6) (by unfold vp_in; decide) dL_law_1047 ?_
  refine W.eq (g2 := F0 m 1048 ls [.int (xs 2), .int (xs 1), .ref qx]) rfl ?_
  refine cpVi (rest := []) ⟨hx, hb, hml, hown, hts⟩ hKN (hP.sub (ws' := [(qx, .inr (11, [.ref (u.1 0), .ref (u.1 2), .ref (u.1 13), .ref (u.1 22), .ref (u.1 26), .ref (u.1 69), .ref (u.1 73), .ref (u.1 74), .ref (u.1 77), .ref (u.1 79), .ref (u.1 83)])), ((u.1 13), .inr (3, [.int 0, .int 0, .int 0, .int 0, .int 0, .int 0, .int 0, .int 0, .ref (u.1 14), .ref (u.1 15), .ref (u.1 16), .ref (u.1 17), .ref (u.1 18), .ref (u.1 19), .ref (u.1 20), .ref (u.1 21)]))]) [0, 1] rfl) (k_X11_waits l D cA qx (u.1 0) (u.1 2) (u.1 13) (u.1 22) (u.1 26) (u.1 69) (u.1 73) (u.1 74) (u.1 77) (u.1 79) (u.1 83) (u.1 14) (u.1 15) (u.1 16) (u.1 17) (u.1 18) (u.1 19) (u.1 20) (u.1 21) (xs 1) (xs 2)) (tb_V tw_979 tw_980 tw_981 tw_101 tw_982) hdX11_waits ⟨rfl, rfl, Nat.le_of_ble_eq_true rfl, Nat.le_of_ble_eq_true rfl⟩ ⟨Nat.le_of_ble_eq_true rfl, Nat.le_of_ble_eq_true rfl⟩ rfl rfl rfl hl.1 rfl (Nat.le_of_ble_eq_true rfl) dL_law_1048 (fun r_3 hr_3 => ?_)
  obtain rfl : r_3 = (-2) := hr_3
  refine lv_aload_n hx hb dL_law_1051 rfl (lv_at hl 1 rfl) ?_
  refine lv_aload_n hx hb dL_law_1052 rfl (lv_at hl 3 rfl) ?_
  refine lv_iload_n hx hb dL_law_1053 rfl (lv_at hl 0 rfl) ?_
  refine lv_iconst (v := 1) hx hb dL_law_1054 (by decide) ?_
  refine lv_iadd hx hb dL_law_1055 ?_
  refine lv_topi (fun x_4 ex_4 => ?_)
  obtain rfl : x_4 = 1 := ex_4.trans (by decide)
  refine va_sld hx hb hX hbl hbA hS (L := 6) (by unfold vp_in; decide) dL_law_1056 ?_
  refine W.eq (g2 := F0 m 1057 ls [.int (xs 1), .ref qm, .int (-2)]) rfl ?_
  refine lv_aload_n hx hb dL_law_1057 rfl (lv_at hl 3 rfl) ?_
  refine lv_iload_n hx hb dL_law_1058 rfl (lv_at hl 0 rfl) ?_
  refine lv_iconst (v := 2) hx hb dL_law_1059 (by decide) ?_
  refine lv_iadd hx hb dL_law_1060 ?_
  refine lv_topi (fun x_5 ex_5 => ?_)
  obtain rfl : x_5 = 2 := ex_5.trans (by decide)
  refine va_sld hx hb hX hbl hbA hS (L := 6) (by unfold vp_in; decide) dL_law_1061 ?_
  refine W.eq (g2 := F0 m 1062 ls [.int (xs 2), .int (xs 1), .ref qm, .int (-2)]) rfl ?_
  refine cpVi (rest := [.int (-2)]) ⟨hx, hb, hml, hown, hts⟩ hKN (hP.sub (ws' := [(qm, .inr (12, [.int 0, .ref (v.1 0), .ref (v.1 1), .ref (v.1 2), .ref (v.1 3), .int 0, .ref (v.1 4), .int 0, .int 0, .int 0, .int 0, .int 0, .int 0, .int (-1), .ref (v.1 5), .int 0, .int 0, .int 0, .int 0, .int 0, .int 0, .ref (v.1 6), .ref (v.1 7), .ref (v.1 8), .ref (v.1 9), .int 0, .int 0, .ref (v.1 10), .int 0, .ref (v.1 11), .int 0, .ref (v.1 12), .ref (v.1 13), .ref (v.1 14), .ref (v.1 15)])), ((v.1 0), .inl (cA 1, 122, .inl (fun _ => 0)))]) [2, 3] rfl) (k_X12_waits l D cA qm (v.1 0) (v.1 1) (v.1 2) (v.1 3) (v.1 4) (v.1 5) (v.1 6) (v.1 7) (v.1 8) (v.1 9) (v.1 10) (v.1 11) (v.1 12) (v.1 13) (v.1 14) (v.1 15) (xs 1) (xs 2)) (tb_V tw_1863 tw_1864 tw_1865 tw_114 tw_1866) hdX12_waits ⟨rfl, rfl, Nat.le_of_ble_eq_true rfl, Nat.le_of_ble_eq_true rfl⟩ ⟨Nat.le_of_ble_eq_true rfl, Nat.le_of_ble_eq_true rfl⟩ rfl rfl rfl hl.1 rfl (Nat.le_of_ble_eq_true rfl) dL_law_1062 (fun r_6 hr_6 => ?_)
  obtain rfl : r_6 = (-2) := hr_6
  refine lv_icmp_eq (tgt := 2271) hx hb dL_law_1065 (by decide) (fun c_7 => ?_) (fun c_7 => absurd (by decide) c_7)
  exact lawEnd l C0 hS (Nat.le_of_ble_eq_true rfl) (Nat.le_of_ble_eq_true rfl) (lv_sub hl [0, 1, 2, 3] rfl)

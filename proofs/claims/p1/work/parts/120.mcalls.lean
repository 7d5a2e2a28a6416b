set_option maxHeartbeats 4000000 in
set_option maxRecDepth 100000 in
theorem k_X12_man (l : Launch) (D : va_G) (cA : Nat → ClassId) (h0 : Nat) (m_world : Nat) (m_images : Nat) (m_hasImage : Nat) (m_tape : Nat) (m_five : Nat) (m_fresh : Nat) (m_sums : Nat) (m_pairs : Nat) (m_goesWith : Nat) (m_said : Nat) (m_firstOrder : Nat) (m_tiredBy : Nat) (m_many : Nat) (m_width : Nat) (m_numbers : Nat) (m_moving : Nat) (p0 : Int32) (p1 : Int32) : Met l yX12_man (Cond.code yX12_man cX12_man 3 (some .int) :: TB) (rmd 2 0 0) (PP D cA [(h0, .inr (12, [.int 0, .ref m_world, .ref m_images, .ref m_hasImage, .ref m_tape, .int 0, .ref m_five, .int 0, .int 0, .int 0, .int 0, .int 0, .int 0, .int (-1), .ref m_fresh, .int 0, .int 0, .int 0, .int 0, .int 0, .int 0, .ref m_sums, .ref m_pairs, .ref m_goesWith, .ref m_said, .int 0, .int 0, .ref m_firstOrder, .int 0, .ref m_tiredBy, .int 0, .ref m_many, .ref m_width, .ref m_numbers, .ref m_moving])), (m_world, .inl (cA 1, 122, .inl (fun _ => 0)))] [.ref h0, .int p0, .int p1]) (vp_Si (fun r => r = (-2))) 0 0 (fun _ => False) := by
  refine Met.ofW (cc := cX12_man) (maxL := 3) (ret := (some .int)) (by decide) rfl ?_
  intro p e s m args below meth c s₁ B hml hv
  obtain ⟨rfl, hP, hKN⟩ := hv
  have hx := B.exec
  have hb := B.bytes
  have hr := B.returns
  have hts : ∀ w ∈ TB, w.before _ s = true := fun w h => atoms_spec B.pre w (List.mem_cons_of_mem _ h)
  have hown : s.vm.findClass RX12 = some m.cls := findClass_of_methodNamed B.named
  have hlocks := B.notSynchronized
  have hl := lv_entry ([.ref h0, .int p0, .int p1]) (n := 3) (Nat.le_of_ble_eq_true rfl)
  rw [lg_entry_eq]
  generalize (lg_sl ([.ref h0, .int p0, .int p1]) ++ List.replicate (3 - (lg_sl ([.ref h0, .int p0, .int p1])).length) Slot.unset).toArray = ls at hl ⊢
  have hl : lv_has ls 3 [(0, .ref h0), (1, .int p0), (2, .int p1)] := hl
  refine lv_aload_n hx hb dX12_man_0 rfl (lv_at hl 0 rfl) ?_
  refine lv_iload_n hx hb dX12_man_1 rfl (lv_at hl 1 rfl) ?_
  obtain ⟨x_1, ex_1⟩ : ∃ y, p0.toInt64 = y := ⟨_, rfl⟩
  refine lv_i2l (v := x_1) hx hb dX12_man_2 ex_1 ?_
  have k_2 := tt_i2l ex_1
  refine cpVi (rest := []) ⟨hx, hb, hml, hown, hts⟩ hKN (hP.sub (ws' := [(h0, .inr (12, [.int 0, .ref m_world, .ref m_images, .ref m_hasImage, .ref m_tape, .int 0, .ref m_five, .int 0, .int 0, .int 0, .int 0, .int 0, .int 0, .int (-1), .ref m_fresh, .int 0, .int 0, .int 0, .int 0, .int 0, .int 0, .ref m_sums, .ref m_pairs, .ref m_goesWith, .ref m_said, .int 0, .int 0, .ref m_firstOrder, .int 0, .ref m_tiredBy, .int 0, .ref m_many, .ref m_width, .ref m_numbers, .ref m_moving])), (m_world, .inl (cA 1, 122, .inl (fun _ => 0)))]) [0, 1] rfl) (k_X12_isMan l D cA h0 m_world m_images m_hasImage m_tape m_five m_fresh m_sums m_pairs m_goesWith m_said m_firstOrder m_tiredBy m_many m_width m_numbers m_moving x_1) (tb_V tw_1636 tw_1638 tw_49 tw_114 tw_1639) hdX12_isMan ⟨rfl, rfl, Nat.le_of_ble_eq_true rfl, Nat.le_of_ble_eq_true rfl⟩ ⟨Nat.le_of_ble_eq_true rfl, Nat.le_of_ble_eq_true rfl⟩ rfl rfl rfl hl.1 rfl (Nat.le_of_ble_eq_true rfl) dX12_man_3 (fun r_3 hr_3 => ?_)
  obtain rfl : r_3 = 0 := hr_3
  refine lv_if_eq (tgt := 30) hx hb dX12_man_6 (by decide) (fun c_4 => ?_) (fun c_4 => absurd (by decide) c_4)
  refine lv_bipush (v := (-2)) hx hb dX12_man_30 (by decide) ?_
  exact W.iret (v := (-2)) hx hb hr (fun t ht hW => ⟨(-2), rfl, rfl, ht⟩) (fun _ h => by cases h) dX12_man_32
set_option maxHeartbeats 4000000 in
set_option maxRecDepth 100000 in
theorem k_X12_start (l : Launch) (D : va_G) (cA : Nat → ClassId) (h0 : Nat) (m_world : Nat) (m_images : Nat) (m_hasImage : Nat) (m_tape : Nat) (m_five : Nat) (m_fresh : Nat) (m_sums : Nat) (m_pairs : Nat) (m_goesWith : Nat) (m_said : Nat) (m_firstOrder : Nat) (m_tiredBy : Nat) (m_many : Nat) (m_width : Nat) (m_numbers : Nat) (m_moving : Nat) (p0 : Int32) : Met l yX12_start (Cond.code yX12_start cX12_start 2 (some .int) :: TB) (rmd 2 0 0) (PP D cA [(h0, .inr (12, [.int 0, .ref m_world, .ref m_images, .ref m_hasImage, .ref m_tape, .int 0, .ref m_five, .int 0, .int 0, .int 0, .int 0, .int 0, .int 0, .int (-1), .ref m_fresh, .int 0, .int 0, .int 0, .int 0, .int 0, .int 0, .ref m_sums, .ref m_pairs, .ref m_goesWith, .ref m_said, .int 0, .int 0, .ref m_firstOrder, .int 0, .ref m_tiredBy, .int 0, .ref m_many, .ref m_width, .ref m_numbers, .ref m_moving])), (m_world, .inl (cA 1, 122, .inl (fun _ => 0)))] [.ref h0, .int p0]) (vp_Si (fun r => r = (-2))) 0 0 (fun _ => False) := by
  refine Met.ofW (cc := cX12_start) (maxL := 2) (ret := (some .int)) (by decide) rfl ?_
  intro p e s m args below meth c s₁ B hml hv
  obtain ⟨rfl, hP, hKN⟩ := hv
  have hx := B.exec
  have hb := B.bytes
  have hr := B.returns
  have hts : ∀ w ∈ TB, w.before _ s = true := fun w h => atoms_spec B.pre w (List.mem_cons_of_mem _ h)
  have hown : s.vm.findClass RX12 = some m.cls := findClass_of_methodNamed B.named
  have hlocks := B.notSynchronized
  have hl := lv_entry ([.ref h0, .int p0]) (n := 2) (Nat.le_of_ble_eq_true rfl)
  rw [lg_entry_eq]
  generalize (lg_sl ([.ref h0, .int p0]) ++ List.replicate (2 - (lg_sl ([.ref h0, .int p0])).length) Slot.unset).toArray = ls at hl ⊢
  have hl : lv_has ls 2 [(0, .ref h0), (1, .int p0)] := hl
  refine lv_aload_n hx hb dX12_start_0 rfl (lv_at hl 0 rfl) ?_
  refine lv_iload_n hx hb dX12_start_1 rfl (lv_at hl 1 rfl) ?_
  refine cpVi (rest := []) ⟨hx, hb, hml, hown, hts⟩ hKN (hP.sub (ws' := [(h0, .inr (12, [.int 0, .ref m_world, .ref m_images, .ref m_hasImage, .ref m_tape, .int 0, .ref m_five, .int 0, .int 0, .int 0, .int 0, .int 0, .int 0, .int (-1), .ref m_fresh, .int 0, .int 0, .int 0, .int 0, .int 0, .int 0, .ref m_sums, .ref m_pairs, .ref m_goesWith, .ref m_said, .int 0, .int 0, .ref m_firstOrder, .int 0, .ref m_tiredBy, .int 0, .ref m_many, .ref m_width, .ref m_numbers, .ref m_moving])), (m_world, .inl (cA 1, 122, .inl (fun _ => 0)))]) [0, 1] rfl) (k_X12_isSide l D cA h0 m_world m_images m_hasImage m_tape m_five m_fresh m_sums m_pairs m_goesWith m_said m_firstOrder m_tiredBy m_many m_width m_numbers m_moving p0) (tb_V tw_1660 tw_1662 tw_53 tw_114 tw_1663) hdX12_isSide ⟨rfl, rfl, Nat.le_of_ble_eq_true rfl, Nat.le_of_ble_eq_true rfl⟩ ⟨Nat.le_of_ble_eq_true rfl, Nat.le_of_ble_eq_true rfl⟩ rfl rfl rfl hl.1 rfl (Nat.le_of_ble_eq_true rfl) dX12_start_2 (fun r_1 hr_1 => ?_)
  obtain rfl : r_1 = 0 := hr_1
  refine lv_if_ne (tgt := 11) hx hb dX12_start_5 (by decide) (fun c_2 => absurd (by decide) c_2) (fun c_2 => ?_)
  refine lv_bipush (v := (-2)) hx hb dX12_start_8 (by decide) ?_
  exact W.iret (v := (-2)) hx hb hr (fun t ht hW => ⟨(-2), rfl, rfl, ht⟩) (fun _ h => by cases h) dX12_start_10
set_option maxHeartbeats 4000000 in
set_option maxRecDepth 100000 in
theorem k_X12_out (l : Launch) (D : va_G) (cA : Nat → ClassId) (h0 : Nat) (m_world : Nat) (m_images : Nat) (m_hasImage : Nat) (m_tape : Nat) (m_five : Nat) (m_fresh : Nat) (m_sums : Nat) (m_pairs : Nat) (m_goesWith : Nat) (m_said : Nat) (m_firstOrder : Nat) (m_tiredBy : Nat) (m_many : Nat) (m_width : Nat) (m_numbers : Nat) (m_moving : Nat) (p0 : Int32) (p1 : Int32) : Met l yX12_out (Cond.code yX12_out cX12_out 3 (some .int) :: TB) (rmd 2 0 0) (PP D cA [(h0, .inr (12, [.int 0, .ref m_world, .ref m_images, .ref m_hasImage, .ref m_tape, .int 0, .ref m_five, .int 0, .int 0, .int 0, .int 0, .int 0, .int 0, .int (-1), .ref m_fresh, .int 0, .int 0, .int 0, .int 0, .int 0, .int 0, .ref m_sums, .ref m_pairs, .ref m_goesWith, .ref m_said, .int 0, .int 0, .ref m_firstOrder, .int 0, .ref m_tiredBy, .int 0, .ref m_many, .ref m_width, .ref m_numbers, .ref m_moving])), (m_world, .inl (cA 1, 122, .inl (fun _ => 0)))] [.ref h0, .int p0, .int p1]) (vp_Si (fun r => r = (-2))) 0 0 (fun _ => False) := by
  refine Met.ofW (cc := cX12_out) (maxL := 3) (ret := (some .int)) (by decide) rfl ?_
  intro p e s m args below meth c s₁ B hml hv
  obtain ⟨rfl, hP, hKN⟩ := hv
  have hx := B.exec
  have hb := B.bytes
  have hr := B.returns
  have hts : ∀ w ∈ TB, w.before _ s = true := fun w h => atoms_spec B.pre w (List.mem_cons_of_mem _ h)
  have hown : s.vm.findClass RX12 = some m.cls := findClass_of_methodNamed B.named
  have hlocks := B.notSynchronized
  have hl := lv_entry ([.ref h0, .int p0, .int p1]) (n := 3) (Nat.le_of_ble_eq_true rfl)
  rw [lg_entry_eq]
  generalize (lg_sl ([.ref h0, .int p0, .int p1]) ++ List.replicate (3 - (lg_sl ([.ref h0, .int p0, .int p1])).length) Slot.unset).toArray = ls at hl ⊢
  have hl : lv_has ls 3 [(0, .ref h0), (1, .int p0), (2, .int p1)] := hl
  refine lv_aload_n hx hb dX12_out_0 rfl (lv_at hl 0 rfl) ?_
  refine lv_iload_n hx hb dX12_out_1 rfl (lv_at hl 1 rfl) ?_
  refine cpVi (rest := []) ⟨hx, hb, hml, hown, hts⟩ hKN (hP.sub (ws' := [(h0, .inr (12, [.int 0, .ref m_world, .ref m_images, .ref m_hasImage, .ref m_tape, .int 0, .ref m_five, .int 0, .int 0, .int 0, .int 0, .int 0, .int 0, .int (-1), .ref m_fresh, .int 0, .int 0, .int 0, .int 0, .int 0, .int 0, .ref m_sums, .ref m_pairs, .ref m_goesWith, .ref m_said, .int 0, .int 0, .ref m_firstOrder, .int 0, .ref m_tiredBy, .int 0, .ref m_many, .ref m_width, .ref m_numbers, .ref m_moving])), (m_world, .inl (cA 1, 122, .inl (fun _ => 0)))]) [0, 1] rfl) (k_X12_isSide l D cA h0 m_world m_images m_hasImage m_tape m_five m_fresh m_sums m_pairs m_goesWith m_said m_firstOrder m_tiredBy m_many m_width m_numbers m_moving p0) (tb_V tw_1660 tw_1662 tw_53 tw_114 tw_1663) hdX12_isSide ⟨rfl, rfl, Nat.le_of_ble_eq_true rfl, Nat.le_of_ble_eq_true rfl⟩ ⟨Nat.le_of_ble_eq_true rfl, Nat.le_of_ble_eq_true rfl⟩ rfl rfl rfl hl.1 rfl (Nat.le_of_ble_eq_true rfl) dX12_out_2 (fun r_1 hr_1 => ?_)
  obtain rfl : r_1 = 0 := hr_1
  refine lv_if_eq (tgt := 20) hx hb dX12_out_5 (by decide) (fun c_2 => ?_) (fun c_2 => absurd (by decide) c_2)
  refine lv_bipush (v := (-2)) hx hb dX12_out_20 (by decide) ?_
  exact W.iret (v := (-2)) hx hb hr (fun t ht hW => ⟨(-2), rfl, rfl, ht⟩) (fun _ h => by cases h) dX12_out_22
set_option maxHeartbeats 4000000 in
set_option maxRecDepth 100000 in
theorem k_X12_next (l : Launch) (D : va_G) (cA : Nat → ClassId) (h0 : Nat) (m_world : Nat) (m_images : Nat) (m_hasImage : Nat) (m_tape : Nat) (m_five : Nat) (m_fresh : Nat) (m_sums : Nat) (m_pairs : Nat) (m_goesWith : Nat) (m_said : Nat) (m_firstOrder : Nat) (m_tiredBy : Nat) (m_many : Nat) (m_width : Nat) (m_numbers : Nat) (m_moving : Nat) (p0 : Int32) : Met l yX12_next (Cond.code yX12_next cX12_next 2 (some .int) :: TB) (rmd 1 0 0) (PP D cA [(h0, .inr (12, [.int 0, .ref m_world, .ref m_images, .ref m_hasImage, .ref m_tape, .int 0, .ref m_five, .int 0, .int 0, .int 0, .int 0, .int 0, .int 0, .int (-1), .ref m_fresh, .int 0, .int 0, .int 0, .int 0, .int 0, .int 0, .ref m_sums, .ref m_pairs, .ref m_goesWith, .ref m_said, .int 0, .int 0, .ref m_firstOrder, .int 0, .ref m_tiredBy, .int 0, .ref m_many, .ref m_width, .ref m_numbers, .ref m_moving])), (m_world, .inl (cA 1, 122, .inl (fun _ => 0)))] [.ref h0, .int p0]) (vp_Si (fun r => r = (-2))) 0 0 (fun _ => False) := by
  refine Met.ofW (cc := cX12_next) (maxL := 2) (ret := (some .int)) (by decide) rfl ?_
  intro p e s m args below meth c s₁ B hml hv
  obtain ⟨rfl, hP, hKN⟩ := hv
  have hx := B.exec
  have hb := B.bytes
  have hr := B.returns
  have hts : ∀ w ∈ TB, w.before _ s = true := fun w h => atoms_spec B.pre w (List.mem_cons_of_mem _ h)
  have hown : s.vm.findClass RX12 = some m.cls := findClass_of_methodNamed B.named
  have hlocks := B.notSynchronized
  have hl := lv_entry ([.ref h0, .int p0]) (n := 2) (Nat.le_of_ble_eq_true rfl)
  rw [lg_entry_eq]
  generalize (lg_sl ([.ref h0, .int p0]) ++ List.replicate (2 - (lg_sl ([.ref h0, .int p0])).length) Slot.unset).toArray = ls at hl ⊢
  have hl : lv_has ls 2 [(0, .ref h0), (1, .int p0)] := hl
  refine lv_aload_n hx hb dX12_next_0 rfl (lv_at hl 0 rfl) ?_
  refine cpVi (rest := []) ⟨hx, hb, hml, hown, hts⟩ hKN (hP.sub (ws' := [(h0, .inr (12, [.int 0, .ref m_world, .ref m_images, .ref m_hasImage, .ref m_tape, .int 0, .ref m_five, .int 0, .int 0, .int 0, .int 0, .int 0, .int 0, .int (-1), .ref m_fresh, .int 0, .int 0, .int 0, .int 0, .int 0, .int 0, .ref m_sums, .ref m_pairs, .ref m_goesWith, .ref m_said, .int 0, .int 0, .ref m_firstOrder, .int 0, .ref m_tiredBy, .int 0, .ref m_many, .ref m_width, .ref m_numbers, .ref m_moving])), (m_world, .inl (cA 1, 122, .inl (fun _ => 0)))]) [0, 1] rfl) (k_X12_isGorge l D cA h0 m_world m_images m_hasImage m_tape m_five m_fresh m_sums m_pairs m_goesWith m_said m_firstOrder m_tiredBy m_many m_width m_numbers m_moving) (tb_V tw_1664 tw_1666 tw_54 tw_114 tw_1667) hdX12_isGorge ⟨rfl, rfl, Nat.le_of_ble_eq_true rfl, Nat.le_of_ble_eq_true rfl⟩ ⟨Nat.le_of_ble_eq_true rfl, Nat.le_of_ble_eq_true rfl⟩ rfl rfl rfl hl.1 rfl (Nat.le_of_ble_eq_true rfl) dX12_next_1 (fun r_1 hr_1 => ?_)
  obtain rfl : r_1 = 0 := hr_1
  refine lv_if_eq (tgt := 19) hx hb dX12_next_4 (by decide) (fun c_2 => ?_) (fun c_2 => absurd (by decide) c_2)
  refine lv_bipush (v := (-2)) hx hb dX12_next_19 (by decide) ?_
  exact W.iret (v := (-2)) hx hb hr (fun t ht hW => ⟨(-2), rfl, rfl, ht⟩) (fun _ h => by cases h) dX12_next_21
set_option maxHeartbeats 4000000 in
set_option maxRecDepth 100000 in
theorem k_X12_meetings (l : Launch) (D : va_G) (cA : Nat → ClassId) (h0 : Nat) (m_world : Nat) (m_images : Nat) (m_hasImage : Nat) (m_tape : Nat) (m_five : Nat) (m_fresh : Nat) (m_sums : Nat) (m_pairs : Nat) (m_goesWith : Nat) (m_said : Nat) (m_firstOrder : Nat) (m_tiredBy : Nat) (m_many : Nat) (m_width : Nat) (m_numbers : Nat) (m_moving : Nat) (p0 : Int32) : Met l yX12_meetings (Cond.code yX12_meetings cX12_meetings 2 (some .int) :: TB) (rmd 1 0 0) (PP D cA [(h0, .inr (12, [.int 0, .ref m_world, .ref m_images, .ref m_hasImage, .ref m_tape, .int 0, .ref m_five, .int 0, .int 0, .int 0, .int 0, .int 0, .int 0, .int (-1), .ref m_fresh, .int 0, .int 0, .int 0, .int 0, .int 0, .int 0, .ref m_sums, .ref m_pairs, .ref m_goesWith, .ref m_said, .int 0, .int 0, .ref m_firstOrder, .int 0, .ref m_tiredBy, .int 0, .ref m_many, .ref m_width, .ref m_numbers, .ref m_moving])), (m_world, .inl (cA 1, 122, .inl (fun _ => 0)))] [.ref h0, .int p0]) (vp_Si (fun r => r = (-2))) 0 0 (fun _ => False) := by
  refine Met.ofW (cc := cX12_meetings) (maxL := 2) (ret := (some .int)) (by decide) rfl ?_
  intro p e s m args below meth c s₁ B hml hv
  obtain ⟨rfl, hP, hKN⟩ := hv
  have hx := B.exec
  have hb := B.bytes
  have hr := B.returns
  have hts : ∀ w ∈ TB, w.before _ s = true := fun w h => atoms_spec B.pre w (List.mem_cons_of_mem _ h)
  have hown : s.vm.findClass RX12 = some m.cls := findClass_of_methodNamed B.named
  have hlocks := B.notSynchronized
  have hl := lv_entry ([.ref h0, .int p0]) (n := 2) (Nat.le_of_ble_eq_true rfl)
  rw [lg_entry_eq]
  generalize (lg_sl ([.ref h0, .int p0]) ++ List.replicate (2 - (lg_sl ([.ref h0, .int p0])).length) Slot.unset).toArray = ls at hl ⊢
  have hl : lv_has ls 2 [(0, .ref h0), (1, .int p0)] := hl
  refine lv_aload_n hx hb dX12_meetings_0 rfl (lv_at hl 0 rfl) ?_
  refine cpVi (rest := []) ⟨hx, hb, hml, hown, hts⟩ hKN (hP.sub (ws' := [(h0, .inr (12, [.int 0, .ref m_world, .ref m_images, .ref m_hasImage, .ref m_tape, .int 0, .ref m_five, .int 0, .int 0, .int 0, .int 0, .int 0, .int 0, .int (-1), .ref m_fresh, .int 0, .int 0, .int 0, .int 0, .int 0, .int 0, .ref m_sums, .ref m_pairs, .ref m_goesWith, .ref m_said, .int 0, .int 0, .ref m_firstOrder, .int 0, .ref m_tiredBy, .int 0, .ref m_many, .ref m_width, .ref m_numbers, .ref m_moving])), (m_world, .inl (cA 1, 122, .inl (fun _ => 0)))]) [0, 1] rfl) (k_X12_isGorge l D cA h0 m_world m_images m_hasImage m_tape m_five m_fresh m_sums m_pairs m_goesWith m_said m_firstOrder m_tiredBy m_many m_width m_numbers m_moving) (tb_V tw_1664 tw_1666 tw_54 tw_114 tw_1667) hdX12_isGorge ⟨rfl, rfl, Nat.le_of_ble_eq_true rfl, Nat.le_of_ble_eq_true rfl⟩ ⟨Nat.le_of_ble_eq_true rfl, Nat.le_of_ble_eq_true rfl⟩ rfl rfl rfl hl.1 rfl (Nat.le_of_ble_eq_true rfl) dX12_meetings_1 (fun r_1 hr_1 => ?_)
  obtain rfl : r_1 = 0 := hr_1
  refine lv_if_eq (tgt := 19) hx hb dX12_meetings_4 (by decide) (fun c_2 => ?_) (fun c_2 => absurd (by decide) c_2)
  refine lv_bipush (v := (-2)) hx hb dX12_meetings_19 (by decide) ?_
  exact W.iret (v := (-2)) hx hb hr (fun t ht hW => ⟨(-2), rfl, rfl, ht⟩) (fun _ h => by cases h) dX12_meetings_21
set_option maxHeartbeats 4000000 in
set_option maxRecDepth 100000 in
theorem k_X12_longest (l : Launch) (D : va_G) (cA : Nat → ClassId) (h0 : Nat) (m_world : Nat) (m_images : Nat) (m_hasImage : Nat) (m_tape : Nat) (m_five : Nat) (m_fresh : Nat) (m_sums : Nat) (m_pairs : Nat) (m_goesWith : Nat) (m_said : Nat) (m_firstOrder : Nat) (m_tiredBy : Nat) (m_many : Nat) (m_width : Nat) (m_numbers : Nat) (m_moving : Nat) : Met l yX12_longest (Cond.code yX12_longest cX12_longest 4 (some .int) :: TB) (rmd 1 0 0) (PP D cA [(h0, .inr (12, [.int 0, .ref m_world, .ref m_images, .ref m_hasImage, .ref m_tape, .int 0, .ref m_five, .int 0, .int 0, .int 0, .int 0, .int 0, .int 0, .int (-1), .ref m_fresh, .int 0, .int 0, .int 0, .int 0, .int 0, .int 0, .ref m_sums, .ref m_pairs, .ref m_goesWith, .ref m_said, .int 0, .int 0, .ref m_firstOrder, .int 0, .ref m_tiredBy, .int 0, .ref m_many, .ref m_width, .ref m_numbers, .ref m_moving])), (m_world, .inl (cA 1, 122, .inl (fun _ => 0)))] [.ref h0]) (vp_Si (fun r => r = (-2))) 0 0 (fun _ => False) := by
  refine Met.ofW (cc := cX12_longest) (maxL := 4) (ret := (some .int)) (by decide) rfl ?_
  intro p e s m args below meth c s₁ B hml hv
  obtain ⟨rfl, hP, hKN⟩ := hv
  have hx := B.exec
  have hb := B.bytes
  have hr := B.returns
  have hts : ∀ w ∈ TB, w.before _ s = true := fun w h => atoms_spec B.pre w (List.mem_cons_of_mem _ h)
  have hown : s.vm.findClass RX12 = some m.cls := findClass_of_methodNamed B.named
  have hlocks := B.notSynchronized
  have hl := lv_entry ([.ref h0]) (n := 4) (Nat.le_of_ble_eq_true rfl)
  rw [lg_entry_eq]
  generalize (lg_sl ([.ref h0]) ++ List.replicate (4 - (lg_sl ([.ref h0])).length) Slot.unset).toArray = ls at hl ⊢
  have hl : lv_has ls 4 [(0, .ref h0)] := hl
  refine lv_aload_n hx hb dX12_longest_0 rfl (lv_at hl 0 rfl) ?_
  refine cpVi (rest := []) ⟨hx, hb, hml, hown, hts⟩ hKN (hP.sub (ws' := [(h0, .inr (12, [.int 0, .ref m_world, .ref m_images, .ref m_hasImage, .ref m_tape, .int 0, .ref m_five, .int 0, .int 0, .int 0, .int 0, .int 0, .int 0, .int (-1), .ref m_fresh, .int 0, .int 0, .int 0, .int 0, .int 0, .int 0, .ref m_sums, .ref m_pairs, .ref m_goesWith, .ref m_said, .int 0, .int 0, .ref m_firstOrder, .int 0, .ref m_tiredBy, .int 0, .ref m_many, .ref m_width, .ref m_numbers, .ref m_moving])), (m_world, .inl (cA 1, 122, .inl (fun _ => 0)))]) [0, 1] rfl) (k_X12_isGorge l D cA h0 m_world m_images m_hasImage m_tape m_five m_fresh m_sums m_pairs m_goesWith m_said m_firstOrder m_tiredBy m_many m_width m_numbers m_moving) (tb_V tw_1664 tw_1666 tw_54 tw_114 tw_1667) hdX12_isGorge ⟨rfl, rfl, Nat.le_of_ble_eq_true rfl, Nat.le_of_ble_eq_true rfl⟩ ⟨Nat.le_of_ble_eq_true rfl, Nat.le_of_ble_eq_true rfl⟩ rfl rfl rfl hl.1 rfl (Nat.le_of_ble_eq_true rfl) dX12_longest_1 (fun r_1 hr_1 => ?_)
  obtain rfl : r_1 = 0 := hr_1
  refine lv_if_ne (tgt := 10) hx hb dX12_longest_4 (by decide) (fun c_2 => absurd (by decide) c_2) (fun c_2 => ?_)
  refine lv_bipush (v := (-2)) hx hb dX12_longest_7 (by decide) ?_
  exact W.iret (v := (-2)) hx hb hr (fun t ht hW => ⟨(-2), rfl, rfl, ht⟩) (fun _ h => by cases h) dX12_longest_9
set_option maxHeartbeats 4000000 in
set_option maxRecDepth 100000 in
theorem k_X12_able (l : Launch) (D : va_G) (cA : Nat → ClassId) (h0 : Nat) (m_world : Nat) (m_images : Nat) (m_hasImage : Nat) (m_tape : Nat) (m_five : Nat) (m_fresh : Nat) (m_sums : Nat) (m_pairs : Nat) (m_goesWith : Nat) (m_said : Nat) (m_firstOrder : Nat) (m_tiredBy : Nat) (m_many : Nat) (m_width : Nat) (m_numbers : Nat) (m_moving : Nat) : Met l yX12_able (Cond.code yX12_able cX12_able 4 (some .int) :: TB) (rmd 1 0 0) (PP D cA [(h0, .inr (12, [.int 0, .ref m_world, .ref m_images, .ref m_hasImage, .ref m_tape, .int 0, .ref m_five, .int 0, .int 0, .int 0, .int 0, .int 0, .int 0, .int (-1), .ref m_fresh, .int 0, .int 0, .int 0, .int 0, .int 0, .int 0, .ref m_sums, .ref m_pairs, .ref m_goesWith, .ref m_said, .int 0, .int 0, .ref m_firstOrder, .int 0, .ref m_tiredBy, .int 0, .ref m_many, .ref m_width, .ref m_numbers, .ref m_moving])), (m_world, .inl (cA 1, 122, .inl (fun _ => 0)))] [.ref h0]) (vp_Si (fun r => r = (-2))) 0 0 (fun _ => False) := by
  refine Met.ofW (cc := cX12_able) (maxL := 4) (ret := (some .int)) (by decide) rfl ?_
  intro p e s m args below meth c s₁ B hml hv
  obtain ⟨rfl, hP, hKN⟩ := hv
  have hx := B.exec
  have hb := B.bytes
  have hr := B.returns
  have hts : ∀ w ∈ TB, w.before _ s = true := fun w h => atoms_spec B.pre w (List.mem_cons_of_mem _ h)
  have hown : s.vm.findClass RX12 = some m.cls := findClass_of_methodNamed B.named
  have hlocks := B.notSynchronized
  have hl := lv_entry ([.ref h0]) (n := 4) (Nat.le_of_ble_eq_true rfl)
  rw [lg_entry_eq]
  generalize (lg_sl ([.ref h0]) ++ List.replicate (4 - (lg_sl ([.ref h0])).length) Slot.unset).toArray = ls at hl ⊢
  have hl : lv_has ls 4 [(0, .ref h0)] := hl
  refine lv_aload_n hx hb dX12_able_0 rfl (lv_at hl 0 rfl) ?_
  refine cpVi (rest := []) ⟨hx, hb, hml, hown, hts⟩ hKN (hP.sub (ws' := [(h0, .inr (12, [.int 0, .ref m_world, .ref m_images, .ref m_hasImage, .ref m_tape, .int 0, .ref m_five, .int 0, .int 0, .int 0, .int 0, .int 0, .int 0, .int (-1), .ref m_fresh, .int 0, .int 0, .int 0, .int 0, .int 0, .int 0, .ref m_sums, .ref m_pairs, .ref m_goesWith, .ref m_said, .int 0, .int 0, .ref m_firstOrder, .int 0, .ref m_tiredBy, .int 0, .ref m_many, .ref m_width, .ref m_numbers, .ref m_moving])), (m_world, .inl (cA 1, 122, .inl (fun _ => 0)))]) [0, 1] rfl) (k_X12_isGorge l D cA h0 m_world m_images m_hasImage m_tape m_five m_fresh m_sums m_pairs m_goesWith m_said m_firstOrder m_tiredBy m_many m_width m_numbers m_moving) (tb_V tw_1664 tw_1666 tw_54 tw_114 tw_1667) hdX12_isGorge ⟨rfl, rfl, Nat.le_of_ble_eq_true rfl, Nat.le_of_ble_eq_true rfl⟩ ⟨Nat.le_of_ble_eq_true rfl, Nat.le_of_ble_eq_true rfl⟩ rfl rfl rfl hl.1 rfl (Nat.le_of_ble_eq_true rfl) dX12_able_1 (fun r_1 hr_1 => ?_)
  obtain rfl : r_1 = 0 := hr_1
  refine lv_if_ne (tgt := 10) hx hb dX12_able_4 (by decide) (fun c_2 => absurd (by decide) c_2) (fun c_2 => ?_)
  refine lv_bipush (v := (-2)) hx hb dX12_able_7 (by decide) ?_
  exact W.iret (v := (-2)) hx hb hr (fun t ht hW => ⟨(-2), rfl, rfl, ht⟩) (fun _ h => by cases h) dX12_able_9
set_option maxHeartbeats 4000000 in
set_option maxRecDepth 100000 in
theorem k_X12_soonest (l : Launch) (D : va_G) (cA : Nat → ClassId) (h0 : Nat) (m_world : Nat) (m_images : Nat) (m_hasImage : Nat) (m_tape : Nat) (m_five : Nat) (m_fresh : Nat) (m_sums : Nat) (m_pairs : Nat) (m_goesWith : Nat) (m_said : Nat) (m_firstOrder : Nat) (m_tiredBy : Nat) (m_many : Nat) (m_width : Nat) (m_numbers : Nat) (m_moving : Nat) : Met l yX12_soonest (Cond.code yX12_soonest cX12_soonest 4 (some .int) :: TB) (rmd 1 0 0) (PP D cA [(h0, .inr (12, [.int 0, .ref m_world, .ref m_images, .ref m_hasImage, .ref m_tape, .int 0, .ref m_five, .int 0, .int 0, .int 0, .int 0, .int 0, .int 0, .int (-1), .ref m_fresh, .int 0, .int 0, .int 0, .int 0, .int 0, .int 0, .ref m_sums, .ref m_pairs, .ref m_goesWith, .ref m_said, .int 0, .int 0, .ref m_firstOrder, .int 0, .ref m_tiredBy, .int 0, .ref m_many, .ref m_width, .ref m_numbers, .ref m_moving])), (m_world, .inl (cA 1, 122, .inl (fun _ => 0)))] [.ref h0]) (vp_Si (fun r => r = (-2))) 0 0 (fun _ => False) := by
  refine Met.ofW (cc := cX12_soonest) (maxL := 4) (ret := (some .int)) (by decide) rfl ?_
  intro p e s m args below meth c s₁ B hml hv
  obtain ⟨rfl, hP, hKN⟩ := hv
  have hx := B.exec
  have hb := B.bytes
  have hr := B.returns
  have hts : ∀ w ∈ TB, w.before _ s = true := fun w h => atoms_spec B.pre w (List.mem_cons_of_mem _ h)
  have hown : s.vm.findClass RX12 = some m.cls := findClass_of_methodNamed B.named
  have hlocks := B.notSynchronized
  have hl := lv_entry ([.ref h0]) (n := 4) (Nat.le_of_ble_eq_true rfl)
  rw [lg_entry_eq]
  generalize (lg_sl ([.ref h0]) ++ List.replicate (4 - (lg_sl ([.ref h0])).length) Slot.unset).toArray = ls at hl ⊢
  have hl : lv_has ls 4 [(0, .ref h0)] := hl
  refine lv_aload_n hx hb dX12_soonest_0 rfl (lv_at hl 0 rfl) ?_
  refine cpVi (rest := []) ⟨hx, hb, hml, hown, hts⟩ hKN (hP.sub (ws' := [(h0, .inr (12, [.int 0, .ref m_world, .ref m_images, .ref m_hasImage, .ref m_tape, .int 0, .ref m_five, .int 0, .int 0, .int 0, .int 0, .int 0, .int 0, .int (-1), .ref m_fresh, .int 0, .int 0, .int 0, .int 0, .int 0, .int 0, .ref m_sums, .ref m_pairs, .ref m_goesWith, .ref m_said, .int 0, .int 0, .ref m_firstOrder, .int 0, .ref m_tiredBy, .int 0, .ref m_many, .ref m_width, .ref m_numbers, .ref m_moving])), (m_world, .inl (cA 1, 122, .inl (fun _ => 0)))]) [0, 1] rfl) (k_X12_isGorge l D cA h0 m_world m_images m_hasImage m_tape m_five m_fresh m_sums m_pairs m_goesWith m_said m_firstOrder m_tiredBy m_many m_width m_numbers m_moving) (tb_V tw_1664 tw_1666 tw_54 tw_114 tw_1667) hdX12_isGorge ⟨rfl, rfl, Nat.le_of_ble_eq_true rfl, Nat.le_of_ble_eq_true rfl⟩ ⟨Nat.le_of_ble_eq_true rfl, Nat.le_of_ble_eq_true rfl⟩ rfl rfl rfl hl.1 rfl (Nat.le_of_ble_eq_true rfl) dX12_soonest_1 (fun r_1 hr_1 => ?_)
  obtain rfl : r_1 = 0 := hr_1
  refine lv_if_ne (tgt := 10) hx hb dX12_soonest_4 (by decide) (fun c_2 => absurd (by decide) c_2) (fun c_2 => ?_)
  refine lv_bipush (v := (-2)) hx hb dX12_soonest_7 (by decide) ?_
  exact W.iret (v := (-2)) hx hb hr (fun t ht hW => ⟨(-2), rfl, rfl, ht⟩) (fun _ h => by cases h) dX12_soonest_9
set_option maxHeartbeats 4000000 in
set_option maxRecDepth 100000 in
theorem k_X12_often (l : Launch) (D : va_G) (cA : Nat → ClassId) (h0 : Nat) (m_world : Nat) (m_images : Nat) (m_hasImage : Nat) (m_tape : Nat) (m_five : Nat) (m_fresh : Nat) (m_sums : Nat) (m_pairs : Nat) (m_goesWith : Nat) (m_said : Nat) (m_firstOrder : Nat) (m_tiredBy : Nat) (m_many : Nat) (m_width : Nat) (m_numbers : Nat) (m_moving : Nat) (p0 : Int32) : Met l yX12_often (Cond.code yX12_often cX12_often 5 (some .int) :: TB) (rmd 1 0 0) (PP D cA [(h0, .inr (12, [.int 0, .ref m_world, .ref m_images, .ref m_hasImage, .ref m_tape, .int 0, .ref m_five, .int 0, .int 0, .int 0, .int 0, .int 0, .int 0, .int (-1), .ref m_fresh, .int 0, .int 0, .int 0, .int 0, .int 0, .int 0, .ref m_sums, .ref m_pairs, .ref m_goesWith, .ref m_said, .int 0, .int 0, .ref m_firstOrder, .int 0, .ref m_tiredBy, .int 0, .ref m_many, .ref m_width, .ref m_numbers, .ref m_moving])), (m_world, .inl (cA 1, 122, .inl (fun _ => 0)))] [.ref h0, .int p0]) (vp_Si (fun r => r = (-2))) 0 0 (fun _ => False) := by
  refine Met.ofW (cc := cX12_often) (maxL := 5) (ret := (some .int)) (by decide) rfl ?_
  intro p e s m args below meth c s₁ B hml hv
  obtain ⟨rfl, hP, hKN⟩ := hv
  have hx := B.exec
  have hb := B.bytes
  have hr := B.returns
  have hts : ∀ w ∈ TB, w.before _ s = true := fun w h => atoms_spec B.pre w (List.mem_cons_of_mem _ h)
  have hown : s.vm.findClass RX12 = some m.cls := findClass_of_methodNamed B.named
  have hlocks := B.notSynchronized
  have hl := lv_entry ([.ref h0, .int p0]) (n := 5) (Nat.le_of_ble_eq_true rfl)
  rw [lg_entry_eq]
  generalize (lg_sl ([.ref h0, .int p0]) ++ List.replicate (5 - (lg_sl ([.ref h0, .int p0])).length) Slot.unset).toArray = ls at hl ⊢
  have hl : lv_has ls 5 [(0, .ref h0), (1, .int p0)] := hl
  refine lv_aload_n hx hb dX12_often_0 rfl (lv_at hl 0 rfl) ?_
  refine cpVi (rest := []) ⟨hx, hb, hml, hown, hts⟩ hKN (hP.sub (ws' := [(h0, .inr (12, [.int 0, .ref m_world, .ref m_images, .ref m_hasImage, .ref m_tape, .int 0, .ref m_five, .int 0, .int 0, .int 0, .int 0, .int 0, .int 0, .int (-1), .ref m_fresh, .int 0, .int 0, .int 0, .int 0, .int 0, .int 0, .ref m_sums, .ref m_pairs, .ref m_goesWith, .ref m_said, .int 0, .int 0, .ref m_firstOrder, .int 0, .ref m_tiredBy, .int 0, .ref m_many, .ref m_width, .ref m_numbers, .ref m_moving])), (m_world, .inl (cA 1, 122, .inl (fun _ => 0)))]) [0, 1] rfl) (k_X12_isGorge l D cA h0 m_world m_images m_hasImage m_tape m_five m_fresh m_sums m_pairs m_goesWith m_said m_firstOrder m_tiredBy m_many m_width m_numbers m_moving) (tb_V tw_1664 tw_1666 tw_54 tw_114 tw_1667) hdX12_isGorge ⟨rfl, rfl, Nat.le_of_ble_eq_true rfl, Nat.le_of_ble_eq_true rfl⟩ ⟨Nat.le_of_ble_eq_true rfl, Nat.le_of_ble_eq_true rfl⟩ rfl rfl rfl hl.1 rfl (Nat.le_of_ble_eq_true rfl) dX12_often_1 (fun r_1 hr_1 => ?_)
  obtain rfl : r_1 = 0 := hr_1
  refine lv_if_eq (tgt := 19) hx hb dX12_often_4 (by decide) (fun c_2 => ?_) (fun c_2 => absurd (by decide) c_2)
  refine lv_bipush (v := (-2)) hx hb dX12_often_19 (by decide) ?_
  exact W.iret (v := (-2)) hx hb hr (fun t ht hW => ⟨(-2), rfl, rfl, ht⟩) (fun _ h => by cases h) dX12_often_21
set_option maxHeartbeats 4000000 in
set_option maxRecDepth 100000 in
theorem k_X12_kept (l : Launch) (D : va_G) (cA : Nat → ClassId) (h0 : Nat) (m_world : Nat) (m_images : Nat) (m_hasImage : Nat) (m_tape : Nat) (m_five : Nat) (m_fresh : Nat) (m_sums : Nat) (m_pairs : Nat) (m_goesWith : Nat) (m_said : Nat) (m_firstOrder : Nat) (m_tiredBy : Nat) (m_many : Nat) (m_width : Nat) (m_numbers : Nat) (m_moving : Nat) : Met l yX12_kept (Cond.code yX12_kept cX12_kept 3 (some .int) :: TB) (rmd 1 0 0) (PP D cA [(h0, .inr (12, [.int 0, .ref m_world, .ref m_images, .ref m_hasImage, .ref m_tape, .int 0, .ref m_five, .int 0, .int 0, .int 0, .int 0, .int 0, .int 0, .int (-1), .ref m_fresh, .int 0, .int 0, .int 0, .int 0, .int 0, .int 0, .ref m_sums, .ref m_pairs, .ref m_goesWith, .ref m_said, .int 0, .int 0, .ref m_firstOrder, .int 0, .ref m_tiredBy, .int 0, .ref m_many, .ref m_width, .ref m_numbers, .ref m_moving])), (m_world, .inl (cA 1, 122, .inl (fun _ => 0)))] [.ref h0]) (vp_Si (fun r => r = (-2))) 0 0 (fun _ => False) := by
  refine Met.ofW (cc := cX12_kept) (maxL := 3) (ret := (some .int)) (by decide) rfl ?_
  intro p e s m args below meth c s₁ B hml hv
  obtain ⟨rfl, hP, hKN⟩ := hv
  have hx := B.exec
  have hb := B.bytes
  have hr := B.returns
  have hts : ∀ w ∈ TB, w.before _ s = true := fun w h => atoms_spec B.pre w (List.mem_cons_of_mem _ h)
  have hown : s.vm.findClass RX12 = some m.cls := findClass_of_methodNamed B.named
  have hlocks := B.notSynchronized
  have hl := lv_entry ([.ref h0]) (n := 3) (Nat.le_of_ble_eq_true rfl)
  rw [lg_entry_eq]
  generalize (lg_sl ([.ref h0]) ++ List.replicate (3 - (lg_sl ([.ref h0])).length) Slot.unset).toArray = ls at hl ⊢
  have hl : lv_has ls 3 [(0, .ref h0)] := hl
  refine lv_aload_n hx hb dX12_kept_0 rfl (lv_at hl 0 rfl) ?_
  refine cpVi (rest := []) ⟨hx, hb, hml, hown, hts⟩ hKN (hP.sub (ws' := [(h0, .inr (12, [.int 0, .ref m_world, .ref m_images, .ref m_hasImage, .ref m_tape, .int 0, .ref m_five, .int 0, .int 0, .int 0, .int 0, .int 0, .int 0, .int (-1), .ref m_fresh, .int 0, .int 0, .int 0, .int 0, .int 0, .int 0, .ref m_sums, .ref m_pairs, .ref m_goesWith, .ref m_said, .int 0, .int 0, .ref m_firstOrder, .int 0, .ref m_tiredBy, .int 0, .ref m_many, .ref m_width, .ref m_numbers, .ref m_moving])), (m_world, .inl (cA 1, 122, .inl (fun _ => 0)))]) [0, 1] rfl) (k_X12_isGorge l D cA h0 m_world m_images m_hasImage m_tape m_five m_fresh m_sums m_pairs m_goesWith m_said m_firstOrder m_tiredBy m_many m_width m_numbers m_moving) (tb_V tw_1664 tw_1666 tw_54 tw_114 tw_1667) hdX12_isGorge ⟨rfl, rfl, Nat.le_of_ble_eq_true rfl, Nat.le_of_ble_eq_true rfl⟩ ⟨Nat.le_of_ble_eq_true rfl, Nat.le_of_ble_eq_true rfl⟩ rfl rfl rfl hl.1 rfl (Nat.le_of_ble_eq_true rfl) dX12_kept_1 (fun r_1 hr_1 => ?_)
  obtain rfl : r_1 = 0 := hr_1
  refine lv_if_ne (tgt := 10) hx hb dX12_kept_4 (by decide) (fun c_2 => absurd (by decide) c_2) (fun c_2 => ?_)
  refine lv_bipush (v := (-2)) hx hb dX12_kept_7 (by decide) ?_
  exact W.iret (v := (-2)) hx hb hr (fun t ht hW => ⟨(-2), rfl, rfl, ht⟩) (fun _ h => by cases h) dX12_kept_9
set_option maxHeartbeats 4000000 in
set_option maxRecDepth 100000 in
theorem k_X12_meet (l : Launch) (D : va_G) (cA : Nat → ClassId) (h0 : Nat) (m_world : Nat) (m_images : Nat) (m_hasImage : Nat) (m_tape : Nat) (m_five : Nat) (m_fresh : Nat) (m_sums : Nat) (m_pairs : Nat) (m_goesWith : Nat) (m_said : Nat) (m_firstOrder : Nat) (m_tiredBy : Nat) (m_many : Nat) (m_width : Nat) (m_numbers : Nat) (m_moving : Nat) (p0 : Int32) : Met l yX12_meet (Cond.code yX12_meet cX12_meet 2 (some .int) :: TB) (rmd 1 0 0) (PP D cA [(h0, .inr (12, [.int 0, .ref m_world, .ref m_images, .ref m_hasImage, .ref m_tape, .int 0, .ref m_five, .int 0, .int 0, .int 0, .int 0, .int 0, .int 0, .int (-1), .ref m_fresh, .int 0, .int 0, .int 0, .int 0, .int 0, .int 0, .ref m_sums, .ref m_pairs, .ref m_goesWith, .ref m_said, .int 0, .int 0, .ref m_firstOrder, .int 0, .ref m_tiredBy, .int 0, .ref m_many, .ref m_width, .ref m_numbers, .ref m_moving])), (m_world, .inl (cA 1, 122, .inl (fun _ => 0)))] [.ref h0, .int p0]) (vp_Si (fun r => r = (-2))) 0 0 (fun _ => False) := by
  refine Met.ofW (cc := cX12_meet) (maxL := 2) (ret := (some .int)) (by decide) rfl ?_
  intro p e s m args below meth c s₁ B hml hv
  obtain ⟨rfl, hP, hKN⟩ := hv
  have hx := B.exec
  have hb := B.bytes
  have hr := B.returns
  have hts : ∀ w ∈ TB, w.before _ s = true := fun w h => atoms_spec B.pre w (List.mem_cons_of_mem _ h)
  have hown : s.vm.findClass RX12 = some m.cls := findClass_of_methodNamed B.named
  have hlocks := B.notSynchronized
  have hl := lv_entry ([.ref h0, .int p0]) (n := 2) (Nat.le_of_ble_eq_true rfl)
  rw [lg_entry_eq]
  generalize (lg_sl ([.ref h0, .int p0]) ++ List.replicate (2 - (lg_sl ([.ref h0, .int p0])).length) Slot.unset).toArray = ls at hl ⊢
  have hl : lv_has ls 2 [(0, .ref h0), (1, .int p0)] := hl
  refine lv_aload_n hx hb dX12_meet_0 rfl (lv_at hl 0 rfl) ?_
  refine cpVi (rest := []) ⟨hx, hb, hml, hown, hts⟩ hKN (hP.sub (ws' := [(h0, .inr (12, [.int 0, .ref m_world, .ref m_images, .ref m_hasImage, .ref m_tape, .int 0, .ref m_five, .int 0, .int 0, .int 0, .int 0, .int 0, .int 0, .int (-1), .ref m_fresh, .int 0, .int 0, .int 0, .int 0, .int 0, .int 0, .ref m_sums, .ref m_pairs, .ref m_goesWith, .ref m_said, .int 0, .int 0, .ref m_firstOrder, .int 0, .ref m_tiredBy, .int 0, .ref m_many, .ref m_width, .ref m_numbers, .ref m_moving])), (m_world, .inl (cA 1, 122, .inl (fun _ => 0)))]) [0, 1] rfl) (k_X12_isGorge l D cA h0 m_world m_images m_hasImage m_tape m_five m_fresh m_sums m_pairs m_goesWith m_said m_firstOrder m_tiredBy m_many m_width m_numbers m_moving) (tb_V tw_1664 tw_1666 tw_54 tw_114 tw_1667) hdX12_isGorge ⟨rfl, rfl, Nat.le_of_ble_eq_true rfl, Nat.le_of_ble_eq_true rfl⟩ ⟨Nat.le_of_ble_eq_true rfl, Nat.le_of_ble_eq_true rfl⟩ rfl rfl rfl hl.1 rfl (Nat.le_of_ble_eq_true rfl) dX12_meet_1 (fun r_1 hr_1 => ?_)
  obtain rfl : r_1 = 0 := hr_1
  refine lv_if_eq (tgt := 19) hx hb dX12_meet_4 (by decide) (fun c_2 => ?_) (fun c_2 => absurd (by decide) c_2)
  refine lv_bipush (v := (-2)) hx hb dX12_meet_19 (by decide) ?_
  exact W.iret (v := (-2)) hx hb hr (fun t ht hW => ⟨(-2), rfl, rfl, ht⟩) (fun _ h => by cases h) dX12_meet_21
set_option maxHeartbeats 4000000 in
set_option maxRecDepth 100000 in
theorem k_X12_pushes (l : Launch) (D : va_G) (cA : Nat → ClassId) (h0 : Nat) (m_world : Nat) (m_images : Nat) (m_hasImage : Nat) (m_tape : Nat) (m_five : Nat) (m_fresh : Nat) (m_sums : Nat) (m_pairs : Nat) (m_goesWith : Nat) (m_said : Nat) (m_firstOrder : Nat) (m_tiredBy : Nat) (m_many : Nat) (m_width : Nat) (m_numbers : Nat) (m_moving : Nat) (p0 : Int32) : Met l yX12_pushes (Cond.code yX12_pushes cX12_pushes 3 (some .int) :: TB) (rmd 1 0 0) (PP D cA [(h0, .inr (12, [.int 0, .ref m_world, .ref m_images, .ref m_hasImage, .ref m_tape, .int 0, .ref m_five, .int 0, .int 0, .int 0, .int 0, .int 0, .int 0, .int (-1), .ref m_fresh, .int 0, .int 0, .int 0, .int 0, .int 0, .int 0, .ref m_sums, .ref m_pairs, .ref m_goesWith, .ref m_said, .int 0, .int 0, .ref m_firstOrder, .int 0, .ref m_tiredBy, .int 0, .ref m_many, .ref m_width, .ref m_numbers, .ref m_moving])), (m_world, .inl (cA 1, 122, .inl (fun _ => 0)))] [.ref h0, .int p0]) (vp_Si (fun r => r = (-2))) 0 0 (fun _ => False) := by
  refine Met.ofW (cc := cX12_pushes) (maxL := 3) (ret := (some .int)) (by decide) rfl ?_
  intro p e s m args below meth c s₁ B hml hv
  obtain ⟨rfl, hP, hKN⟩ := hv
  have hx := B.exec
  have hb := B.bytes
  have hr := B.returns
  have hts : ∀ w ∈ TB, w.before _ s = true := fun w h => atoms_spec B.pre w (List.mem_cons_of_mem _ h)
  have hown : s.vm.findClass RX12 = some m.cls := findClass_of_methodNamed B.named
  have hlocks := B.notSynchronized
  have hl := lv_entry ([.ref h0, .int p0]) (n := 3) (Nat.le_of_ble_eq_true rfl)
  rw [lg_entry_eq]
  generalize (lg_sl ([.ref h0, .int p0]) ++ List.replicate (3 - (lg_sl ([.ref h0, .int p0])).length) Slot.unset).toArray = ls at hl ⊢
  have hl : lv_has ls 3 [(0, .ref h0), (1, .int p0)] := hl
  refine lv_aload_n hx hb dX12_pushes_0 rfl (lv_at hl 0 rfl) ?_
  refine cpVi (rest := []) ⟨hx, hb, hml, hown, hts⟩ hKN (hP.sub (ws' := [(h0, .inr (12, [.int 0, .ref m_world, .ref m_images, .ref m_hasImage, .ref m_tape, .int 0, .ref m_five, .int 0, .int 0, .int 0, .int 0, .int 0, .int 0, .int (-1), .ref m_fresh, .int 0, .int 0, .int 0, .int 0, .int 0, .int 0, .ref m_sums, .ref m_pairs, .ref m_goesWith, .ref m_said, .int 0, .int 0, .ref m_firstOrder, .int 0, .ref m_tiredBy, .int 0, .ref m_many, .ref m_width, .ref m_numbers, .ref m_moving])), (m_world, .inl (cA 1, 122, .inl (fun _ => 0)))]) [0, 1] rfl) (k_X12_isGorge l D cA h0 m_world m_images m_hasImage m_tape m_five m_fresh m_sums m_pairs m_goesWith m_said m_firstOrder m_tiredBy m_many m_width m_numbers m_moving) (tb_V tw_1664 tw_1666 tw_54 tw_114 tw_1667) hdX12_isGorge ⟨rfl, rfl, Nat.le_of_ble_eq_true rfl, Nat.le_of_ble_eq_true rfl⟩ ⟨Nat.le_of_ble_eq_true rfl, Nat.le_of_ble_eq_true rfl⟩ rfl rfl rfl hl.1 rfl (Nat.le_of_ble_eq_true rfl) dX12_pushes_1 (fun r_1 hr_1 => ?_)
  obtain rfl : r_1 = 0 := hr_1
  refine lv_if_eq (tgt := 19) hx hb dX12_pushes_4 (by decide) (fun c_2 => ?_) (fun c_2 => absurd (by decide) c_2)
  refine lv_bipush (v := (-2)) hx hb dX12_pushes_19 (by decide) ?_
  exact W.iret (v := (-2)) hx hb hr (fun t ht hW => ⟨(-2), rfl, rfl, ht⟩) (fun _ h => by cases h) dX12_pushes_21
set_option maxHeartbeats 4000000 in
set_option maxRecDepth 100000 in
theorem k_X12_hold (l : Launch) (D : va_G) (cA : Nat → ClassId) (h0 : Nat) (m_world : Nat) (m_images : Nat) (m_hasImage : Nat) (m_tape : Nat) (m_five : Nat) (m_fresh : Nat) (m_sums : Nat) (m_pairs : Nat) (m_goesWith : Nat) (m_said : Nat) (m_firstOrder : Nat) (m_tiredBy : Nat) (m_many : Nat) (m_width : Nat) (m_numbers : Nat) (m_moving : Nat) (p0 : Int32) (p1 : Int32) : Met l yX12_hold (Cond.code yX12_hold cX12_hold 3 (some .int) :: TB) (rmd 3 0 0) (PP D cA [(h0, .inr (12, [.int 0, .ref m_world, .ref m_images, .ref m_hasImage, .ref m_tape, .int 0, .ref m_five, .int 0, .int 0, .int 0, .int 0, .int 0, .int 0, .int (-1), .ref m_fresh, .int 0, .int 0, .int 0, .int 0, .int 0, .int 0, .ref m_sums, .ref m_pairs, .ref m_goesWith, .ref m_said, .int 0, .int 0, .ref m_firstOrder, .int 0, .ref m_tiredBy, .int 0, .ref m_many, .ref m_width, .ref m_numbers, .ref m_moving])), (m_world, .inl (cA 1, 122, .inl (fun _ => 0)))] [.ref h0, .int p0, .int p1]) (vp_Si (fun r => r = (-2))) 0 0 (fun _ => False) := by
  refine Met.ofW (cc := cX12_hold) (maxL := 3) (ret := (some .int)) (by decide) rfl ?_
  intro p e s m args below meth c s₁ B hml hv
  obtain ⟨rfl, hP, hKN⟩ := hv
  have hx := B.exec
  have hb := B.bytes
  have hr := B.returns
  have hts : ∀ w ∈ TB, w.before _ s = true := fun w h => atoms_spec B.pre w (List.mem_cons_of_mem _ h)
  have hown : s.vm.findClass RX12 = some m.cls := findClass_of_methodNamed B.named
  have hlocks := B.notSynchronized
  have hl := lv_entry ([.ref h0, .int p0, .int p1]) (n := 3) (Nat.le_of_ble_eq_true rfl)
  rw [lg_entry_eq]
  generalize (lg_sl ([.ref h0, .int p0, .int p1]) ++ List.replicate (3 - (lg_sl ([.ref h0, .int p0, .int p1])).length) Slot.unset).toArray = ls at hl ⊢
  have hl : lv_has ls 3 [(0, .ref h0), (1, .int p0), (2, .int p1)] := hl
  refine lv_aload_n hx hb dX12_hold_0 rfl (lv_at hl 0 rfl) ?_
  refine lv_iload_n hx hb dX12_hold_1 rfl (lv_at hl 1 rfl) ?_
  refine lv_iload_n hx hb dX12_hold_2 rfl (lv_at hl 2 rfl) ?_
  refine cpVi (rest := []) ⟨hx, hb, hml, hown, hts⟩ hKN (hP.sub (ws' := [(h0, .inr (12, [.int 0, .ref m_world, .ref m_images, .ref m_hasImage, .ref m_tape, .int 0, .ref m_five, .int 0, .int 0, .int 0, .int 0, .int 0, .int 0, .int (-1), .ref m_fresh, .int 0, .int 0, .int 0, .int 0, .int 0, .int 0, .ref m_sums, .ref m_pairs, .ref m_goesWith, .ref m_said, .int 0, .int 0, .ref m_firstOrder, .int 0, .ref m_tiredBy, .int 0, .ref m_many, .ref m_width, .ref m_numbers, .ref m_moving])), (m_world, .inl (cA 1, 122, .inl (fun _ => 0)))]) [0, 1] rfl) (k_X12_areMen l D cA h0 m_world m_images m_hasImage m_tape m_five m_fresh m_sums m_pairs m_goesWith m_said m_firstOrder m_tiredBy m_many m_width m_numbers m_moving p0 p1) (tb_V tw_1771 tw_1773 tw_68 tw_114 tw_1774) hdX12_areMen ⟨rfl, rfl, Nat.le_of_ble_eq_true rfl, Nat.le_of_ble_eq_true rfl⟩ ⟨Nat.le_of_ble_eq_true rfl, Nat.le_of_ble_eq_true rfl⟩ rfl rfl rfl hl.1 rfl (Nat.le_of_ble_eq_true rfl) dX12_hold_3 (fun r_1 hr_1 => ?_)
  obtain rfl : r_1 = 0 := hr_1
  refine lv_if_ne (tgt := 12) hx hb dX12_hold_6 (by decide) (fun c_2 => absurd (by decide) c_2) (fun c_2 => ?_)
  refine lv_bipush (v := (-2)) hx hb dX12_hold_9 (by decide) ?_
  exact W.iret (v := (-2)) hx hb hr (fun t ht hW => ⟨(-2), rfl, rfl, ht⟩) (fun _ h => by cases h) dX12_hold_11
set_option maxHeartbeats 4000000 in
set_option maxRecDepth 100000 in
theorem k_X12_pair (l : Launch) (D : va_G) (cA : Nat → ClassId) (h0 : Nat) (m_world : Nat) (m_images : Nat) (m_hasImage : Nat) (m_tape : Nat) (m_five : Nat) (m_fresh : Nat) (m_sums : Nat) (m_pairs : Nat) (m_goesWith : Nat) (m_said : Nat) (m_firstOrder : Nat) (m_tiredBy : Nat) (m_many : Nat) (m_width : Nat) (m_numbers : Nat) (m_moving : Nat) : Met l yX12_pair (Cond.code yX12_pair cX12_pair 5 (some .int) :: TB) (rmd 1 0 0) (PP D cA [(h0, .inr (12, [.int 0, .ref m_world, .ref m_images, .ref m_hasImage, .ref m_tape, .int 0, .ref m_five, .int 0, .int 0, .int 0, .int 0, .int 0, .int 0, .int (-1), .ref m_fresh, .int 0, .int 0, .int 0, .int 0, .int 0, .int 0, .ref m_sums, .ref m_pairs, .ref m_goesWith, .ref m_said, .int 0, .int 0, .ref m_firstOrder, .int 0, .ref m_tiredBy, .int 0, .ref m_many, .ref m_width, .ref m_numbers, .ref m_moving])), (m_world, .inl (cA 1, 122, .inl (fun _ => 0)))] [.ref h0]) (vp_Si (fun r => r = (-2))) 0 0 (fun _ => False) := by
  refine Met.ofW (cc := cX12_pair) (maxL := 5) (ret := (some .int)) (by decide) rfl ?_
  intro p e s m args below meth c s₁ B hml hv
  obtain ⟨rfl, hP, hKN⟩ := hv
  have hx := B.exec
  have hb := B.bytes
  have hr := B.returns
  have hts : ∀ w ∈ TB, w.before _ s = true := fun w h => atoms_spec B.pre w (List.mem_cons_of_mem _ h)
  have hown : s.vm.findClass RX12 = some m.cls := findClass_of_methodNamed B.named
  have hlocks := B.notSynchronized
  have hl := lv_entry ([.ref h0]) (n := 5) (Nat.le_of_ble_eq_true rfl)
  rw [lg_entry_eq]
  generalize (lg_sl ([.ref h0]) ++ List.replicate (5 - (lg_sl ([.ref h0])).length) Slot.unset).toArray = ls at hl ⊢
  have hl : lv_has ls 5 [(0, .ref h0)] := hl
  refine lv_aload_n hx hb dX12_pair_0 rfl (lv_at hl 0 rfl) ?_
  refine cpVi (rest := []) ⟨hx, hb, hml, hown, hts⟩ hKN (hP.sub (ws' := [(h0, .inr (12, [.int 0, .ref m_world, .ref m_images, .ref m_hasImage, .ref m_tape, .int 0, .ref m_five, .int 0, .int 0, .int 0, .int 0, .int 0, .int 0, .int (-1), .ref m_fresh, .int 0, .int 0, .int 0, .int 0, .int 0, .int 0, .ref m_sums, .ref m_pairs, .ref m_goesWith, .ref m_said, .int 0, .int 0, .ref m_firstOrder, .int 0, .ref m_tiredBy, .int 0, .ref m_many, .ref m_width, .ref m_numbers, .ref m_moving])), (m_world, .inl (cA 1, 122, .inl (fun _ => 0)))]) [0, 1] rfl) (k_X12_isGorge l D cA h0 m_world m_images m_hasImage m_tape m_five m_fresh m_sums m_pairs m_goesWith m_said m_firstOrder m_tiredBy m_many m_width m_numbers m_moving) (tb_V tw_1664 tw_1666 tw_54 tw_114 tw_1667) hdX12_isGorge ⟨rfl, rfl, Nat.le_of_ble_eq_true rfl, Nat.le_of_ble_eq_true rfl⟩ ⟨Nat.le_of_ble_eq_true rfl, Nat.le_of_ble_eq_true rfl⟩ rfl rfl rfl hl.1 rfl (Nat.le_of_ble_eq_true rfl) dX12_pair_1 (fun r_1 hr_1 => ?_)
  obtain rfl : r_1 = 0 := hr_1
  refine lv_if_ne (tgt := 10) hx hb dX12_pair_4 (by decide) (fun c_2 => absurd (by decide) c_2) (fun c_2 => ?_)
  refine lv_bipush (v := (-2)) hx hb dX12_pair_7 (by decide) ?_
  exact W.iret (v := (-2)) hx hb hr (fun t ht hW => ⟨(-2), rfl, rfl, ht⟩) (fun _ h => by cases h) dX12_pair_9
set_option maxHeartbeats 4000000 in
set_option maxRecDepth 100000 in
theorem k_X12_partner (l : Launch) (D : va_G) (cA : Nat → ClassId) (h0 : Nat) (m_world : Nat) (m_images : Nat) (m_hasImage : Nat) (m_tape : Nat) (m_five : Nat) (m_fresh : Nat) (m_sums : Nat) (m_pairs : Nat) (m_goesWith : Nat) (m_said : Nat) (m_firstOrder : Nat) (m_tiredBy : Nat) (m_many : Nat) (m_width : Nat) (m_numbers : Nat) (m_moving : Nat) (p0 : Int32) : Met l yX12_partner (Cond.code yX12_partner cX12_partner 4 (some .int) :: TB) (rmd 2 0 0) (PP D cA [(h0, .inr (12, [.int 0, .ref m_world, .ref m_images, .ref m_hasImage, .ref m_tape, .int 0, .ref m_five, .int 0, .int 0, .int 0, .int 0, .int 0, .int 0, .int (-1), .ref m_fresh, .int 0, .int 0, .int 0, .int 0, .int 0, .int 0, .ref m_sums, .ref m_pairs, .ref m_goesWith, .ref m_said, .int 0, .int 0, .ref m_firstOrder, .int 0, .ref m_tiredBy, .int 0, .ref m_many, .ref m_width, .ref m_numbers, .ref m_moving])), (m_world, .inl (cA 1, 122, .inl (fun _ => 0)))] [.ref h0, .int p0]) (vp_Si (fun r => r = (-2))) 0 0 (fun _ => False) := by
  refine Met.ofW (cc := cX12_partner) (maxL := 4) (ret := (some .int)) (by decide) rfl ?_
  intro p e s m args below meth c s₁ B hml hv
  obtain ⟨rfl, hP, hKN⟩ := hv
  have hx := B.exec
  have hb := B.bytes
  have hr := B.returns
  have hts : ∀ w ∈ TB, w.before _ s = true := fun w h => atoms_spec B.pre w (List.mem_cons_of_mem _ h)
  have hown : s.vm.findClass RX12 = some m.cls := findClass_of_methodNamed B.named
  have hlocks := B.notSynchronized
  have hl := lv_entry ([.ref h0, .int p0]) (n := 4) (Nat.le_of_ble_eq_true rfl)
  rw [lg_entry_eq]
  generalize (lg_sl ([.ref h0, .int p0]) ++ List.replicate (4 - (lg_sl ([.ref h0, .int p0])).length) Slot.unset).toArray = ls at hl ⊢
  have hl : lv_has ls 4 [(0, .ref h0), (1, .int p0)] := hl
  refine lv_aload_n hx hb dX12_partner_0 rfl (lv_at hl 0 rfl) ?_
  refine lv_iload_n hx hb dX12_partner_1 rfl (lv_at hl 1 rfl) ?_
  obtain ⟨x_1, ex_1⟩ : ∃ y, p0.toInt64 = y := ⟨_, rfl⟩
  refine lv_i2l (v := x_1) hx hb dX12_partner_2 ex_1 ?_
  have k_2 := tt_i2l ex_1
  refine cpVi (rest := []) ⟨hx, hb, hml, hown, hts⟩ hKN (hP.sub (ws' := [(h0, .inr (12, [.int 0, .ref m_world, .ref m_images, .ref m_hasImage, .ref m_tape, .int 0, .ref m_five, .int 0, .int 0, .int 0, .int 0, .int 0, .int 0, .int (-1), .ref m_fresh, .int 0, .int 0, .int 0, .int 0, .int 0, .int 0, .ref m_sums, .ref m_pairs, .ref m_goesWith, .ref m_said, .int 0, .int 0, .ref m_firstOrder, .int 0, .ref m_tiredBy, .int 0, .ref m_many, .ref m_width, .ref m_numbers, .ref m_moving])), (m_world, .inl (cA 1, 122, .inl (fun _ => 0)))]) [0, 1] rfl) (k_X12_isMan l D cA h0 m_world m_images m_hasImage m_tape m_five m_fresh m_sums m_pairs m_goesWith m_said m_firstOrder m_tiredBy m_many m_width m_numbers m_moving x_1) (tb_V tw_1636 tw_1638 tw_49 tw_114 tw_1639) hdX12_isMan ⟨rfl, rfl, Nat.le_of_ble_eq_true rfl, Nat.le_of_ble_eq_true rfl⟩ ⟨Nat.le_of_ble_eq_true rfl, Nat.le_of_ble_eq_true rfl⟩ rfl rfl rfl hl.1 rfl (Nat.le_of_ble_eq_true rfl) dX12_partner_3 (fun r_3 hr_3 => ?_)
  obtain rfl : r_3 = 0 := hr_3
  refine lv_if_ne (tgt := 12) hx hb dX12_partner_6 (by decide) (fun c_4 => absurd (by decide) c_4) (fun c_4 => ?_)
  refine lv_bipush (v := (-2)) hx hb dX12_partner_9 (by decide) ?_
  exact W.iret (v := (-2)) hx hb hr (fun t ht hW => ⟨(-2), rfl, rfl, ht⟩) (fun _ h => by cases h) dX12_partner_11
set_option maxHeartbeats 4000000 in
set_option maxRecDepth 100000 in
theorem k_X12_strong (l : Launch) (D : va_G) (cA : Nat → ClassId) (h0 : Nat) (m_world : Nat) (m_images : Nat) (m_hasImage : Nat) (m_tape : Nat) (m_five : Nat) (m_fresh : Nat) (m_sums : Nat) (m_pairs : Nat) (m_goesWith : Nat) (m_said : Nat) (m_firstOrder : Nat) (m_tiredBy : Nat) (m_many : Nat) (m_width : Nat) (m_numbers : Nat) (m_moving : Nat) (p0 : Int32) : Met l yX12_strong (Cond.code yX12_strong cX12_strong 4 (some .int) :: TB) (rmd 2 0 0) (PP D cA [(h0, .inr (12, [.int 0, .ref m_world, .ref m_images, .ref m_hasImage, .ref m_tape, .int 0, .ref m_five, .int 0, .int 0, .int 0, .int 0, .int 0, .int 0, .int (-1), .ref m_fresh, .int 0, .int 0, .int 0, .int 0, .int 0, .int 0, .ref m_sums, .ref m_pairs, .ref m_goesWith, .ref m_said, .int 0, .int 0, .ref m_firstOrder, .int 0, .ref m_tiredBy, .int 0, .ref m_many, .ref m_width, .ref m_numbers, .ref m_moving])), (m_world, .inl (cA 1, 122, .inl (fun _ => 0)))] [.ref h0, .int p0]) (vp_Si (fun r => r = (-2))) 0 0 (fun _ => False) := by
  refine Met.ofW (cc := cX12_strong) (maxL := 4) (ret := (some .int)) (by decide) rfl ?_
  intro p e s m args below meth c s₁ B hml hv
  obtain ⟨rfl, hP, hKN⟩ := hv
  have hx := B.exec
  have hb := B.bytes
  have hr := B.returns
  have hts : ∀ w ∈ TB, w.before _ s = true := fun w h => atoms_spec B.pre w (List.mem_cons_of_mem _ h)
  have hown : s.vm.findClass RX12 = some m.cls := findClass_of_methodNamed B.named
  have hlocks := B.notSynchronized
  have hl := lv_entry ([.ref h0, .int p0]) (n := 4) (Nat.le_of_ble_eq_true rfl)
  rw [lg_entry_eq]
  generalize (lg_sl ([.ref h0, .int p0]) ++ List.replicate (4 - (lg_sl ([.ref h0, .int p0])).length) Slot.unset).toArray = ls at hl ⊢
  have hl : lv_has ls 4 [(0, .ref h0), (1, .int p0)] := hl
  refine lv_aload_n hx hb dX12_strong_0 rfl (lv_at hl 0 rfl) ?_
  refine lv_iload_n hx hb dX12_strong_1 rfl (lv_at hl 1 rfl) ?_
  refine cpVi (rest := []) ⟨hx, hb, hml, hown, hts⟩ hKN (hP.sub (ws' := [(h0, .inr (12, [.int 0, .ref m_world, .ref m_images, .ref m_hasImage, .ref m_tape, .int 0, .ref m_five, .int 0, .int 0, .int 0, .int 0, .int 0, .int 0, .int (-1), .ref m_fresh, .int 0, .int 0, .int 0, .int 0, .int 0, .int 0, .ref m_sums, .ref m_pairs, .ref m_goesWith, .ref m_said, .int 0, .int 0, .ref m_firstOrder, .int 0, .ref m_tiredBy, .int 0, .ref m_many, .ref m_width, .ref m_numbers, .ref m_moving])), (m_world, .inl (cA 1, 122, .inl (fun _ => 0)))]) [0, 1] rfl) (k_X12_isSide l D cA h0 m_world m_images m_hasImage m_tape m_five m_fresh m_sums m_pairs m_goesWith m_said m_firstOrder m_tiredBy m_many m_width m_numbers m_moving p0) (tb_V tw_1660 tw_1662 tw_53 tw_114 tw_1663) hdX12_isSide ⟨rfl, rfl, Nat.le_of_ble_eq_true rfl, Nat.le_of_ble_eq_true rfl⟩ ⟨Nat.le_of_ble_eq_true rfl, Nat.le_of_ble_eq_true rfl⟩ rfl rfl rfl hl.1 rfl (Nat.le_of_ble_eq_true rfl) dX12_strong_2 (fun r_1 hr_1 => ?_)
  obtain rfl : r_1 = 0 := hr_1
  refine lv_if_ne (tgt := 11) hx hb dX12_strong_5 (by decide) (fun c_2 => absurd (by decide) c_2) (fun c_2 => ?_)
  refine lv_bipush (v := (-2)) hx hb dX12_strong_8 (by decide) ?_
  exact W.iret (v := (-2)) hx hb hr (fun t ht hW => ⟨(-2), rfl, rfl, ht⟩) (fun _ h => by cases h) dX12_strong_10
set_option maxHeartbeats 4000000 in
set_option maxRecDepth 100000 in
theorem k_X12_weak (l : Launch) (D : va_G) (cA : Nat → ClassId) (h0 : Nat) (m_world : Nat) (m_images : Nat) (m_hasImage : Nat) (m_tape : Nat) (m_five : Nat) (m_fresh : Nat) (m_sums : Nat) (m_pairs : Nat) (m_goesWith : Nat) (m_said : Nat) (m_firstOrder : Nat) (m_tiredBy : Nat) (m_many : Nat) (m_width : Nat) (m_numbers : Nat) (m_moving : Nat) (p0 : Int32) : Met l yX12_weak (Cond.code yX12_weak cX12_weak 4 (some .int) :: TB) (rmd 2 0 0) (PP D cA [(h0, .inr (12, [.int 0, .ref m_world, .ref m_images, .ref m_hasImage, .ref m_tape, .int 0, .ref m_five, .int 0, .int 0, .int 0, .int 0, .int 0, .int 0, .int (-1), .ref m_fresh, .int 0, .int 0, .int 0, .int 0, .int 0, .int 0, .ref m_sums, .ref m_pairs, .ref m_goesWith, .ref m_said, .int 0, .int 0, .ref m_firstOrder, .int 0, .ref m_tiredBy, .int 0, .ref m_many, .ref m_width, .ref m_numbers, .ref m_moving])), (m_world, .inl (cA 1, 122, .inl (fun _ => 0)))] [.ref h0, .int p0]) (vp_Si (fun r => r = (-2))) 0 0 (fun _ => False) := by
  refine Met.ofW (cc := cX12_weak) (maxL := 4) (ret := (some .int)) (by decide) rfl ?_
  intro p e s m args below meth c s₁ B hml hv
  obtain ⟨rfl, hP, hKN⟩ := hv
  have hx := B.exec
  have hb := B.bytes
  have hr := B.returns
  have hts : ∀ w ∈ TB, w.before _ s = true := fun w h => atoms_spec B.pre w (List.mem_cons_of_mem _ h)
  have hown : s.vm.findClass RX12 = some m.cls := findClass_of_methodNamed B.named
  have hlocks := B.notSynchronized
  have hl := lv_entry ([.ref h0, .int p0]) (n := 4) (Nat.le_of_ble_eq_true rfl)
  rw [lg_entry_eq]
  generalize (lg_sl ([.ref h0, .int p0]) ++ List.replicate (4 - (lg_sl ([.ref h0, .int p0])).length) Slot.unset).toArray = ls at hl ⊢
  have hl : lv_has ls 4 [(0, .ref h0), (1, .int p0)] := hl
  refine lv_aload_n hx hb dX12_weak_0 rfl (lv_at hl 0 rfl) ?_
  refine lv_iload_n hx hb dX12_weak_1 rfl (lv_at hl 1 rfl) ?_
  refine cpVi (rest := []) ⟨hx, hb, hml, hown, hts⟩ hKN (hP.sub (ws' := [(h0, .inr (12, [.int 0, .ref m_world, .ref m_images, .ref m_hasImage, .ref m_tape, .int 0, .ref m_five, .int 0, .int 0, .int 0, .int 0, .int 0, .int 0, .int (-1), .ref m_fresh, .int 0, .int 0, .int 0, .int 0, .int 0, .int 0, .ref m_sums, .ref m_pairs, .ref m_goesWith, .ref m_said, .int 0, .int 0, .ref m_firstOrder, .int 0, .ref m_tiredBy, .int 0, .ref m_many, .ref m_width, .ref m_numbers, .ref m_moving])), (m_world, .inl (cA 1, 122, .inl (fun _ => 0)))]) [0, 1] rfl) (k_X12_isSide l D cA h0 m_world m_images m_hasImage m_tape m_five m_fresh m_sums m_pairs m_goesWith m_said m_firstOrder m_tiredBy m_many m_width m_numbers m_moving p0) (tb_V tw_1660 tw_1662 tw_53 tw_114 tw_1663) hdX12_isSide ⟨rfl, rfl, Nat.le_of_ble_eq_true rfl, Nat.le_of_ble_eq_true rfl⟩ ⟨Nat.le_of_ble_eq_true rfl, Nat.le_of_ble_eq_true rfl⟩ rfl rfl rfl hl.1 rfl (Nat.le_of_ble_eq_true rfl) dX12_weak_2 (fun r_1 hr_1 => ?_)
  obtain rfl : r_1 = 0 := hr_1
  refine lv_if_ne (tgt := 11) hx hb dX12_weak_5 (by decide) (fun c_2 => absurd (by decide) c_2) (fun c_2 => ?_)
  refine lv_bipush (v := (-2)) hx hb dX12_weak_8 (by decide) ?_
  exact W.iret (v := (-2)) hx hb hr (fun t ht hW => ⟨(-2), rfl, rfl, ht⟩) (fun _ h => by cases h) dX12_weak_10
set_option maxHeartbeats 4000000 in
set_option maxRecDepth 100000 in
theorem k_X12_match (l : Launch) (D : va_G) (cA : Nat → ClassId) (h0 : Nat) (m_world : Nat) (m_images : Nat) (m_hasImage : Nat) (m_tape : Nat) (m_five : Nat) (m_fresh : Nat) (m_sums : Nat) (m_pairs : Nat) (m_goesWith : Nat) (m_said : Nat) (m_firstOrder : Nat) (m_tiredBy : Nat) (m_many : Nat) (m_width : Nat) (m_numbers : Nat) (m_moving : Nat) : Met l yX12_match (Cond.code yX12_match cX12_match 1 (some .int) :: TB) (rmd 1 0 0) (PP D cA [(h0, .inr (12, [.int 0, .ref m_world, .ref m_images, .ref m_hasImage, .ref m_tape, .int 0, .ref m_five, .int 0, .int 0, .int 0, .int 0, .int 0, .int 0, .int (-1), .ref m_fresh, .int 0, .int 0, .int 0, .int 0, .int 0, .int 0, .ref m_sums, .ref m_pairs, .ref m_goesWith, .ref m_said, .int 0, .int 0, .ref m_firstOrder, .int 0, .ref m_tiredBy, .int 0, .ref m_many, .ref m_width, .ref m_numbers, .ref m_moving])), (m_world, .inl (cA 1, 122, .inl (fun _ => 0)))] [.ref h0]) (vp_Si (fun r => r = (-2))) 0 0 (fun _ => False) := by
  refine Met.ofW (cc := cX12_match) (maxL := 1) (ret := (some .int)) (by decide) rfl ?_
  intro p e s m args below meth c s₁ B hml hv
  obtain ⟨rfl, hP, hKN⟩ := hv
  have hx := B.exec
  have hb := B.bytes
  have hr := B.returns
  have hts : ∀ w ∈ TB, w.before _ s = true := fun w h => atoms_spec B.pre w (List.mem_cons_of_mem _ h)
  have hown : s.vm.findClass RX12 = some m.cls := findClass_of_methodNamed B.named
  have hlocks := B.notSynchronized
  have hl := lv_entry ([.ref h0]) (n := 1) (Nat.le_of_ble_eq_true rfl)
  rw [lg_entry_eq]
  generalize (lg_sl ([.ref h0]) ++ List.replicate (1 - (lg_sl ([.ref h0])).length) Slot.unset).toArray = ls at hl ⊢
  have hl : lv_has ls 1 [(0, .ref h0)] := hl
  refine lv_aload_n hx hb dX12_match_0 rfl (lv_at hl 0 rfl) ?_
  refine cpVi (rest := []) ⟨hx, hb, hml, hown, hts⟩ hKN (hP.sub (ws' := [(h0, .inr (12, [.int 0, .ref m_world, .ref m_images, .ref m_hasImage, .ref m_tape, .int 0, .ref m_five, .int 0, .int 0, .int 0, .int 0, .int 0, .int 0, .int (-1), .ref m_fresh, .int 0, .int 0, .int 0, .int 0, .int 0, .int 0, .ref m_sums, .ref m_pairs, .ref m_goesWith, .ref m_said, .int 0, .int 0, .ref m_firstOrder, .int 0, .ref m_tiredBy, .int 0, .ref m_many, .ref m_width, .ref m_numbers, .ref m_moving])), (m_world, .inl (cA 1, 122, .inl (fun _ => 0)))]) [0, 1] rfl) (k_X12_isGorge l D cA h0 m_world m_images m_hasImage m_tape m_five m_fresh m_sums m_pairs m_goesWith m_said m_firstOrder m_tiredBy m_many m_width m_numbers m_moving) (tb_V tw_1664 tw_1666 tw_54 tw_114 tw_1667) hdX12_isGorge ⟨rfl, rfl, Nat.le_of_ble_eq_true rfl, Nat.le_of_ble_eq_true rfl⟩ ⟨Nat.le_of_ble_eq_true rfl, Nat.le_of_ble_eq_true rfl⟩ rfl rfl rfl hl.1 rfl (Nat.le_of_ble_eq_true rfl) dX12_match_1 (fun r_1 hr_1 => ?_)
  obtain rfl : r_1 = 0 := hr_1
  refine lv_if_ne (tgt := 10) hx hb dX12_match_4 (by decide) (fun c_2 => absurd (by decide) c_2) (fun c_2 => ?_)
  refine lv_bipush (v := (-2)) hx hb dX12_match_7 (by decide) ?_
  exact W.iret (v := (-2)) hx hb hr (fun t ht hW => ⟨(-2), rfl, rfl, ht⟩) (fun _ h => by cases h) dX12_match_9
set_option maxHeartbeats 4000000 in
set_option maxRecDepth 100000 in
theorem k_X12_matched (l : Launch) (D : va_G) (cA : Nat → ClassId) (h0 : Nat) (m_world : Nat) (m_images : Nat) (m_hasImage : Nat) (m_tape : Nat) (m_five : Nat) (m_fresh : Nat) (m_sums : Nat) (m_pairs : Nat) (m_goesWith : Nat) (m_said : Nat) (m_firstOrder : Nat) (m_tiredBy : Nat) (m_many : Nat) (m_width : Nat) (m_numbers : Nat) (m_moving : Nat) (p0 : Int32) : Met l yX12_matched (Cond.code yX12_matched cX12_matched 2 (some .int) :: TB) (rmd 2 0 0) (PP D cA [(h0, .inr (12, [.int 0, .ref m_world, .ref m_images, .ref m_hasImage, .ref m_tape, .int 0, .ref m_five, .int 0, .int 0, .int 0, .int 0, .int 0, .int 0, .int (-1), .ref m_fresh, .int 0, .int 0, .int 0, .int 0, .int 0, .int 0, .ref m_sums, .ref m_pairs, .ref m_goesWith, .ref m_said, .int 0, .int 0, .ref m_firstOrder, .int 0, .ref m_tiredBy, .int 0, .ref m_many, .ref m_width, .ref m_numbers, .ref m_moving])), (m_world, .inl (cA 1, 122, .inl (fun _ => 0)))] [.ref h0, .int p0]) (vp_Si (fun r => r = (-2))) 0 0 (fun _ => False) := by
  refine Met.ofW (cc := cX12_matched) (maxL := 2) (ret := (some .int)) (by decide) rfl ?_
  intro p e s m args below meth c s₁ B hml hv
  obtain ⟨rfl, hP, hKN⟩ := hv
  have hx := B.exec
  have hb := B.bytes
  have hr := B.returns
  have hts : ∀ w ∈ TB, w.before _ s = true := fun w h => atoms_spec B.pre w (List.mem_cons_of_mem _ h)
  have hown : s.vm.findClass RX12 = some m.cls := findClass_of_methodNamed B.named
  have hlocks := B.notSynchronized
  have hl := lv_entry ([.ref h0, .int p0]) (n := 2) (Nat.le_of_ble_eq_true rfl)
  rw [lg_entry_eq]
  generalize (lg_sl ([.ref h0, .int p0]) ++ List.replicate (2 - (lg_sl ([.ref h0, .int p0])).length) Slot.unset).toArray = ls at hl ⊢
  have hl : lv_has ls 2 [(0, .ref h0), (1, .int p0)] := hl
  refine lv_aload_n hx hb dX12_matched_0 rfl (lv_at hl 0 rfl) ?_
  refine lv_iload_n hx hb dX12_matched_1 rfl (lv_at hl 1 rfl) ?_
  obtain ⟨x_1, ex_1⟩ : ∃ y, p0.toInt64 = y := ⟨_, rfl⟩
  refine lv_i2l (v := x_1) hx hb dX12_matched_2 ex_1 ?_
  have k_2 := tt_i2l ex_1
  refine cpVi (rest := []) ⟨hx, hb, hml, hown, hts⟩ hKN (hP.sub (ws' := [(h0, .inr (12, [.int 0, .ref m_world, .ref m_images, .ref m_hasImage, .ref m_tape, .int 0, .ref m_five, .int 0, .int 0, .int 0, .int 0, .int 0, .int 0, .int (-1), .ref m_fresh, .int 0, .int 0, .int 0, .int 0, .int 0, .int 0, .ref m_sums, .ref m_pairs, .ref m_goesWith, .ref m_said, .int 0, .int 0, .ref m_firstOrder, .int 0, .ref m_tiredBy, .int 0, .ref m_many, .ref m_width, .ref m_numbers, .ref m_moving])), (m_world, .inl (cA 1, 122, .inl (fun _ => 0)))]) [0, 1] rfl) (k_X12_isMan l D cA h0 m_world m_images m_hasImage m_tape m_five m_fresh m_sums m_pairs m_goesWith m_said m_firstOrder m_tiredBy m_many m_width m_numbers m_moving x_1) (tb_V tw_1636 tw_1638 tw_49 tw_114 tw_1639) hdX12_isMan ⟨rfl, rfl, Nat.le_of_ble_eq_true rfl, Nat.le_of_ble_eq_true rfl⟩ ⟨Nat.le_of_ble_eq_true rfl, Nat.le_of_ble_eq_true rfl⟩ rfl rfl rfl hl.1 rfl (Nat.le_of_ble_eq_true rfl) dX12_matched_3 (fun r_3 hr_3 => ?_)
  obtain rfl : r_3 = 0 := hr_3
  refine lv_if_ne (tgt := 12) hx hb dX12_matched_6 (by decide) (fun c_4 => absurd (by decide) c_4) (fun c_4 => ?_)
  refine lv_bipush (v := (-2)) hx hb dX12_matched_9 (by decide) ?_
  exact W.iret (v := (-2)) hx hb hr (fun t ht hW => ⟨(-2), rfl, rfl, ht⟩) (fun _ h => by cases h) dX12_matched_11
set_option maxHeartbeats 4000000 in
set_option maxRecDepth 100000 in
theorem k_X12_loners (l : Launch) (D : va_G) (cA : Nat → ClassId) (h0 : Nat) (m_world : Nat) (m_images : Nat) (m_hasImage : Nat) (m_tape : Nat) (m_five : Nat) (m_fresh : Nat) (m_sums : Nat) (m_pairs : Nat) (m_goesWith : Nat) (m_said : Nat) (m_firstOrder : Nat) (m_tiredBy : Nat) (m_many : Nat) (m_width : Nat) (m_numbers : Nat) (m_moving : Nat) : Met l yX12_loners (Cond.code yX12_loners cX12_loners 3 (some .int) :: TB) (rmd 1 0 0) (PP D cA [(h0, .inr (12, [.int 0, .ref m_world, .ref m_images, .ref m_hasImage, .ref m_tape, .int 0, .ref m_five, .int 0, .int 0, .int 0, .int 0, .int 0, .int 0, .int (-1), .ref m_fresh, .int 0, .int 0, .int 0, .int 0, .int 0, .int 0, .ref m_sums, .ref m_pairs, .ref m_goesWith, .ref m_said, .int 0, .int 0, .ref m_firstOrder, .int 0, .ref m_tiredBy, .int 0, .ref m_many, .ref m_width, .ref m_numbers, .ref m_moving])), (m_world, .inl (cA 1, 122, .inl (fun _ => 0)))] [.ref h0]) (vp_Si (fun r => r = (-2))) 0 0 (fun _ => False) := by
  refine Met.ofW (cc := cX12_loners) (maxL := 3) (ret := (some .int)) (by decide) rfl ?_
  intro p e s m args below meth c s₁ B hml hv
  obtain ⟨rfl, hP, hKN⟩ := hv
  have hx := B.exec
  have hb := B.bytes
  have hr := B.returns
  have hts : ∀ w ∈ TB, w.before _ s = true := fun w h => atoms_spec B.pre w (List.mem_cons_of_mem _ h)
  have hown : s.vm.findClass RX12 = some m.cls := findClass_of_methodNamed B.named
  have hlocks := B.notSynchronized
  have hl := lv_entry ([.ref h0]) (n := 3) (Nat.le_of_ble_eq_true rfl)
  rw [lg_entry_eq]
  generalize (lg_sl ([.ref h0]) ++ List.replicate (3 - (lg_sl ([.ref h0])).length) Slot.unset).toArray = ls at hl ⊢
  have hl : lv_has ls 3 [(0, .ref h0)] := hl
  refine lv_aload_n hx hb dX12_loners_0 rfl (lv_at hl 0 rfl) ?_
  refine cpVi (rest := []) ⟨hx, hb, hml, hown, hts⟩ hKN (hP.sub (ws' := [(h0, .inr (12, [.int 0, .ref m_world, .ref m_images, .ref m_hasImage, .ref m_tape, .int 0, .ref m_five, .int 0, .int 0, .int 0, .int 0, .int 0, .int 0, .int (-1), .ref m_fresh, .int 0, .int 0, .int 0, .int 0, .int 0, .int 0, .ref m_sums, .ref m_pairs, .ref m_goesWith, .ref m_said, .int 0, .int 0, .ref m_firstOrder, .int 0, .ref m_tiredBy, .int 0, .ref m_many, .ref m_width, .ref m_numbers, .ref m_moving])), (m_world, .inl (cA 1, 122, .inl (fun _ => 0)))]) [0, 1] rfl) (k_X12_isGorge l D cA h0 m_world m_images m_hasImage m_tape m_five m_fresh m_sums m_pairs m_goesWith m_said m_firstOrder m_tiredBy m_many m_width m_numbers m_moving) (tb_V tw_1664 tw_1666 tw_54 tw_114 tw_1667) hdX12_isGorge ⟨rfl, rfl, Nat.le_of_ble_eq_true rfl, Nat.le_of_ble_eq_true rfl⟩ ⟨Nat.le_of_ble_eq_true rfl, Nat.le_of_ble_eq_true rfl⟩ rfl rfl rfl hl.1 rfl (Nat.le_of_ble_eq_true rfl) dX12_loners_1 (fun r_1 hr_1 => ?_)
  obtain rfl : r_1 = 0 := hr_1
  refine lv_if_ne (tgt := 10) hx hb dX12_loners_4 (by decide) (fun c_2 => absurd (by decide) c_2) (fun c_2 => ?_)
  refine lv_bipush (v := (-2)) hx hb dX12_loners_7 (by decide) ?_
  exact W.iret (v := (-2)) hx hb hr (fun t ht hW => ⟨(-2), rfl, rfl, ht⟩) (fun _ h => by cases h) dX12_loners_9
set_option maxHeartbeats 4000000 in
set_option maxRecDepth 100000 in
theorem k_X12_fair (l : Launch) (D : va_G) (cA : Nat → ClassId) (h0 : Nat) (m_world : Nat) (m_images : Nat) (m_hasImage : Nat) (m_tape : Nat) (m_five : Nat) (m_fresh : Nat) (m_sums : Nat) (m_pairs : Nat) (m_goesWith : Nat) (m_said : Nat) (m_firstOrder : Nat) (m_tiredBy : Nat) (m_many : Nat) (m_width : Nat) (m_numbers : Nat) (m_moving : Nat) : Met l yX12_fair (Cond.code yX12_fair cX12_fair 3 (some .int) :: TB) (rmd 1 0 0) (PP D cA [(h0, .inr (12, [.int 0, .ref m_world, .ref m_images, .ref m_hasImage, .ref m_tape, .int 0, .ref m_five, .int 0, .int 0, .int 0, .int 0, .int 0, .int 0, .int (-1), .ref m_fresh, .int 0, .int 0, .int 0, .int 0, .int 0, .int 0, .ref m_sums, .ref m_pairs, .ref m_goesWith, .ref m_said, .int 0, .int 0, .ref m_firstOrder, .int 0, .ref m_tiredBy, .int 0, .ref m_many, .ref m_width, .ref m_numbers, .ref m_moving])), (m_world, .inl (cA 1, 122, .inl (fun _ => 0)))] [.ref h0]) (vp_Si (fun r => r = (-2))) 0 0 (fun _ => False) := by
  refine Met.ofW (cc := cX12_fair) (maxL := 3) (ret := (some .int)) (by decide) rfl ?_
  intro p e s m args below meth c s₁ B hml hv
  obtain ⟨rfl, hP, hKN⟩ := hv
  have hx := B.exec
  have hb := B.bytes
  have hr := B.returns
  have hts : ∀ w ∈ TB, w.before _ s = true := fun w h => atoms_spec B.pre w (List.mem_cons_of_mem _ h)
  have hown : s.vm.findClass RX12 = some m.cls := findClass_of_methodNamed B.named
  have hlocks := B.notSynchronized
  have hl := lv_entry ([.ref h0]) (n := 3) (Nat.le_of_ble_eq_true rfl)
  rw [lg_entry_eq]
  generalize (lg_sl ([.ref h0]) ++ List.replicate (3 - (lg_sl ([.ref h0])).length) Slot.unset).toArray = ls at hl ⊢
  have hl : lv_has ls 3 [(0, .ref h0)] := hl
  refine lv_aload_n hx hb dX12_fair_0 rfl (lv_at hl 0 rfl) ?_
  refine cpVi (rest := []) ⟨hx, hb, hml, hown, hts⟩ hKN (hP.sub (ws' := [(h0, .inr (12, [.int 0, .ref m_world, .ref m_images, .ref m_hasImage, .ref m_tape, .int 0, .ref m_five, .int 0, .int 0, .int 0, .int 0, .int 0, .int 0, .int (-1), .ref m_fresh, .int 0, .int 0, .int 0, .int 0, .int 0, .int 0, .ref m_sums, .ref m_pairs, .ref m_goesWith, .ref m_said, .int 0, .int 0, .ref m_firstOrder, .int 0, .ref m_tiredBy, .int 0, .ref m_many, .ref m_width, .ref m_numbers, .ref m_moving])), (m_world, .inl (cA 1, 122, .inl (fun _ => 0)))]) [0, 1] rfl) (k_X12_isGorge l D cA h0 m_world m_images m_hasImage m_tape m_five m_fresh m_sums m_pairs m_goesWith m_said m_firstOrder m_tiredBy m_many m_width m_numbers m_moving) (tb_V tw_1664 tw_1666 tw_54 tw_114 tw_1667) hdX12_isGorge ⟨rfl, rfl, Nat.le_of_ble_eq_true rfl, Nat.le_of_ble_eq_true rfl⟩ ⟨Nat.le_of_ble_eq_true rfl, Nat.le_of_ble_eq_true rfl⟩ rfl rfl rfl hl.1 rfl (Nat.le_of_ble_eq_true rfl) dX12_fair_1 (fun r_1 hr_1 => ?_)
  obtain rfl : r_1 = 0 := hr_1
  refine lv_if_ne (tgt := 10) hx hb dX12_fair_4 (by decide) (fun c_2 => absurd (by decide) c_2) (fun c_2 => ?_)
  refine lv_bipush (v := (-2)) hx hb dX12_fair_7 (by decide) ?_
  exact W.iret (v := (-2)) hx hb hr (fun t ht hW => ⟨(-2), rfl, rfl, ht⟩) (fun _ h => by cases h) dX12_fair_9
set_option maxHeartbeats 4000000 in
set_option maxRecDepth 100000 in
theorem k_X12_resin (l : Launch) (D : va_G) (cA : Nat → ClassId) (h0 : Nat) (m_world : Nat) (m_images : Nat) (m_hasImage : Nat) (m_tape : Nat) (m_five : Nat) (m_fresh : Nat) (m_sums : Nat) (m_pairs : Nat) (m_goesWith : Nat) (m_said : Nat) (m_firstOrder : Nat) (m_tiredBy : Nat) (m_many : Nat) (m_width : Nat) (m_numbers : Nat) (m_moving : Nat) (p0 : Int32) (p1 : Int32) (p2 : Int32) : Met l yX12_resin (Cond.code yX12_resin cX12_resin 4 (some .int) :: TB) (rmd 3 0 0) (PP D cA [(h0, .inr (12, [.int 0, .ref m_world, .ref m_images, .ref m_hasImage, .ref m_tape, .int 0, .ref m_five, .int 0, .int 0, .int 0, .int 0, .int 0, .int 0, .int (-1), .ref m_fresh, .int 0, .int 0, .int 0, .int 0, .int 0, .int 0, .ref m_sums, .ref m_pairs, .ref m_goesWith, .ref m_said, .int 0, .int 0, .ref m_firstOrder, .int 0, .ref m_tiredBy, .int 0, .ref m_many, .ref m_width, .ref m_numbers, .ref m_moving])), (m_world, .inl (cA 1, 122, .inl (fun _ => 0)))] [.ref h0, .int p0, .int p1, .int p2]) (vp_Si (fun r => r = (-2))) 0 0 (fun _ => False) := by
  refine Met.ofW (cc := cX12_resin) (maxL := 4) (ret := (some .int)) (by decide) rfl ?_
  intro p e s m args below meth c s₁ B hml hv
  obtain ⟨rfl, hP, hKN⟩ := hv
  have hx := B.exec
  have hb := B.bytes
  have hr := B.returns
  have hts : ∀ w ∈ TB, w.before _ s = true := fun w h => atoms_spec B.pre w (List.mem_cons_of_mem _ h)
  have hown : s.vm.findClass RX12 = some m.cls := findClass_of_methodNamed B.named
  have hlocks := B.notSynchronized
  have hl := lv_entry ([.ref h0, .int p0, .int p1, .int p2]) (n := 4) (Nat.le_of_ble_eq_true rfl)
  rw [lg_entry_eq]
  generalize (lg_sl ([.ref h0, .int p0, .int p1, .int p2]) ++ List.replicate (4 - (lg_sl ([.ref h0, .int p0, .int p1, .int p2])).length) Slot.unset).toArray = ls at hl ⊢
  have hl : lv_has ls 4 [(0, .ref h0), (1, .int p0), (2, .int p1), (3, .int p2)] := hl
  refine lv_aload_n hx hb dX12_resin_0 rfl (lv_at hl 0 rfl) ?_
  refine lv_iload_n hx hb dX12_resin_1 rfl (lv_at hl 1 rfl) ?_
  refine lv_iload_n hx hb dX12_resin_2 rfl (lv_at hl 2 rfl) ?_
  refine cpVi (rest := []) ⟨hx, hb, hml, hown, hts⟩ hKN (hP.sub (ws' := [(h0, .inr (12, [.int 0, .ref m_world, .ref m_images, .ref m_hasImage, .ref m_tape, .int 0, .ref m_five, .int 0, .int 0, .int 0, .int 0, .int 0, .int 0, .int (-1), .ref m_fresh, .int 0, .int 0, .int 0, .int 0, .int 0, .int 0, .ref m_sums, .ref m_pairs, .ref m_goesWith, .ref m_said, .int 0, .int 0, .ref m_firstOrder, .int 0, .ref m_tiredBy, .int 0, .ref m_many, .ref m_width, .ref m_numbers, .ref m_moving])), (m_world, .inl (cA 1, 122, .inl (fun _ => 0)))]) [0, 1] rfl) (k_X12_areMen l D cA h0 m_world m_images m_hasImage m_tape m_five m_fresh m_sums m_pairs m_goesWith m_said m_firstOrder m_tiredBy m_many m_width m_numbers m_moving p0 p1) (tb_V tw_1771 tw_1773 tw_68 tw_114 tw_1774) hdX12_areMen ⟨rfl, rfl, Nat.le_of_ble_eq_true rfl, Nat.le_of_ble_eq_true rfl⟩ ⟨Nat.le_of_ble_eq_true rfl, Nat.le_of_ble_eq_true rfl⟩ rfl rfl rfl hl.1 rfl (Nat.le_of_ble_eq_true rfl) dX12_resin_3 (fun r_1 hr_1 => ?_)
  obtain rfl : r_1 = 0 := hr_1
  refine lv_if_eq (tgt := 25) hx hb dX12_resin_6 (by decide) (fun c_2 => ?_) (fun c_2 => absurd (by decide) c_2)
  refine lv_bipush (v := (-2)) hx hb dX12_resin_25 (by decide) ?_
  exact W.iret (v := (-2)) hx hb hr (fun t ht hW => ⟨(-2), rfl, rfl, ht⟩) (fun _ h => by cases h) dX12_resin_27
set_option maxHeartbeats 4000000 in
set_option maxRecDepth 100000 in
theorem k_X12_spare (l : Launch) (D : va_G) (cA : Nat → ClassId) (h0 : Nat) (m_world : Nat) (m_images : Nat) (m_hasImage : Nat) (m_tape : Nat) (m_five : Nat) (m_fresh : Nat) (m_sums : Nat) (m_pairs : Nat) (m_goesWith : Nat) (m_said : Nat) (m_firstOrder : Nat) (m_tiredBy : Nat) (m_many : Nat) (m_width : Nat) (m_numbers : Nat) (m_moving : Nat) (p0 : Int32) (p1 : Int32) : Met l yX12_spare (Cond.code yX12_spare cX12_spare 4 (some .int) :: TB) (rmd 3 0 0) (PP D cA [(h0, .inr (12, [.int 0, .ref m_world, .ref m_images, .ref m_hasImage, .ref m_tape, .int 0, .ref m_five, .int 0, .int 0, .int 0, .int 0, .int 0, .int 0, .int (-1), .ref m_fresh, .int 0, .int 0, .int 0, .int 0, .int 0, .int 0, .ref m_sums, .ref m_pairs, .ref m_goesWith, .ref m_said, .int 0, .int 0, .ref m_firstOrder, .int 0, .ref m_tiredBy, .int 0, .ref m_many, .ref m_width, .ref m_numbers, .ref m_moving])), (m_world, .inl (cA 1, 122, .inl (fun _ => 0)))] [.ref h0, .int p0, .int p1]) (vp_Si (fun r => r = (-2))) 0 0 (fun _ => False) := by
  refine Met.ofW (cc := cX12_spare) (maxL := 4) (ret := (some .int)) (by decide) rfl ?_
  intro p e s m args below meth c s₁ B hml hv
  obtain ⟨rfl, hP, hKN⟩ := hv
  have hx := B.exec
  have hb := B.bytes
  have hr := B.returns
  have hts : ∀ w ∈ TB, w.before _ s = true := fun w h => atoms_spec B.pre w (List.mem_cons_of_mem _ h)
  have hown : s.vm.findClass RX12 = some m.cls := findClass_of_methodNamed B.named
  have hlocks := B.notSynchronized
  have hl := lv_entry ([.ref h0, .int p0, .int p1]) (n := 4) (Nat.le_of_ble_eq_true rfl)
  rw [lg_entry_eq]
  generalize (lg_sl ([.ref h0, .int p0, .int p1]) ++ List.replicate (4 - (lg_sl ([.ref h0, .int p0, .int p1])).length) Slot.unset).toArray = ls at hl ⊢
  have hl : lv_has ls 4 [(0, .ref h0), (1, .int p0), (2, .int p1)] := hl
  refine lv_aload_n hx hb dX12_spare_0 rfl (lv_at hl 0 rfl) ?_
  refine lv_iload_n hx hb dX12_spare_1 rfl (lv_at hl 1 rfl) ?_
  refine lv_iload_n hx hb dX12_spare_2 rfl (lv_at hl 2 rfl) ?_
  refine cpVi (rest := []) ⟨hx, hb, hml, hown, hts⟩ hKN (hP.sub (ws' := [(h0, .inr (12, [.int 0, .ref m_world, .ref m_images, .ref m_hasImage, .ref m_tape, .int 0, .ref m_five, .int 0, .int 0, .int 0, .int 0, .int 0, .int 0, .int (-1), .ref m_fresh, .int 0, .int 0, .int 0, .int 0, .int 0, .int 0, .ref m_sums, .ref m_pairs, .ref m_goesWith, .ref m_said, .int 0, .int 0, .ref m_firstOrder, .int 0, .ref m_tiredBy, .int 0, .ref m_many, .ref m_width, .ref m_numbers, .ref m_moving])), (m_world, .inl (cA 1, 122, .inl (fun _ => 0)))]) [0, 1] rfl) (k_X12_areMen l D cA h0 m_world m_images m_hasImage m_tape m_five m_fresh m_sums m_pairs m_goesWith m_said m_firstOrder m_tiredBy m_many m_width m_numbers m_moving p0 p1) (tb_V tw_1771 tw_1773 tw_68 tw_114 tw_1774) hdX12_areMen ⟨rfl, rfl, Nat.le_of_ble_eq_true rfl, Nat.le_of_ble_eq_true rfl⟩ ⟨Nat.le_of_ble_eq_true rfl, Nat.le_of_ble_eq_true rfl⟩ rfl rfl rfl hl.1 rfl (Nat.le_of_ble_eq_true rfl) dX12_spare_3 (fun r_1 hr_1 => ?_)
  obtain rfl : r_1 = 0 := hr_1
  refine lv_if_ne (tgt := 12) hx hb dX12_spare_6 (by decide) (fun c_2 => absurd (by decide) c_2) (fun c_2 => ?_)
  refine lv_bipush (v := (-2)) hx hb dX12_spare_9 (by decide) ?_
  exact W.iret (v := (-2)) hx hb hr (fun t ht hW => ⟨(-2), rfl, rfl, ht⟩) (fun _ h => by cases h) dX12_spare_11
set_option maxHeartbeats 4000000 in
set_option maxRecDepth 100000 in
theorem k_X12_cut (l : Launch) (D : va_G) (cA : Nat → ClassId) (h0 : Nat) (m_world : Nat) (m_images : Nat) (m_hasImage : Nat) (m_tape : Nat) (m_five : Nat) (m_fresh : Nat) (m_sums : Nat) (m_pairs : Nat) (m_goesWith : Nat) (m_said : Nat) (m_firstOrder : Nat) (m_tiredBy : Nat) (m_many : Nat) (m_width : Nat) (m_numbers : Nat) (m_moving : Nat) (p0 : Int32) (p1 : Int32) : Met l yX12_cut (Cond.code yX12_cut cX12_cut 4 (some .int) :: TB) (rmd 3 0 0) (PP D cA [(h0, .inr (12, [.int 0, .ref m_world, .ref m_images, .ref m_hasImage, .ref m_tape, .int 0, .ref m_five, .int 0, .int 0, .int 0, .int 0, .int 0, .int 0, .int (-1), .ref m_fresh, .int 0, .int 0, .int 0, .int 0, .int 0, .int 0, .ref m_sums, .ref m_pairs, .ref m_goesWith, .ref m_said, .int 0, .int 0, .ref m_firstOrder, .int 0, .ref m_tiredBy, .int 0, .ref m_many, .ref m_width, .ref m_numbers, .ref m_moving])), (m_world, .inl (cA 1, 122, .inl (fun _ => 0)))] [.ref h0, .int p0, .int p1]) (vp_Si (fun r => r = (-2))) 0 0 (fun _ => False) := by
  refine Met.ofW (cc := cX12_cut) (maxL := 4) (ret := (some .int)) (by decide) rfl ?_
  intro p e s m args below meth c s₁ B hml hv
  obtain ⟨rfl, hP, hKN⟩ := hv
  have hx := B.exec
  have hb := B.bytes
  have hr := B.returns
  have hts : ∀ w ∈ TB, w.before _ s = true := fun w h => atoms_spec B.pre w (List.mem_cons_of_mem _ h)
  have hown : s.vm.findClass RX12 = some m.cls := findClass_of_methodNamed B.named
  have hlocks := B.notSynchronized
  have hl := lv_entry ([.ref h0, .int p0, .int p1]) (n := 4) (Nat.le_of_ble_eq_true rfl)
  rw [lg_entry_eq]
  generalize (lg_sl ([.ref h0, .int p0, .int p1]) ++ List.replicate (4 - (lg_sl ([.ref h0, .int p0, .int p1])).length) Slot.unset).toArray = ls at hl ⊢
  have hl : lv_has ls 4 [(0, .ref h0), (1, .int p0), (2, .int p1)] := hl
  refine lv_aload_n hx hb dX12_cut_0 rfl (lv_at hl 0 rfl) ?_
  refine lv_iload_n hx hb dX12_cut_1 rfl (lv_at hl 1 rfl) ?_
  refine lv_iload_n hx hb dX12_cut_2 rfl (lv_at hl 2 rfl) ?_
  refine cpVi (rest := []) ⟨hx, hb, hml, hown, hts⟩ hKN (hP.sub (ws' := [(h0, .inr (12, [.int 0, .ref m_world, .ref m_images, .ref m_hasImage, .ref m_tape, .int 0, .ref m_five, .int 0, .int 0, .int 0, .int 0, .int 0, .int 0, .int (-1), .ref m_fresh, .int 0, .int 0, .int 0, .int 0, .int 0, .int 0, .ref m_sums, .ref m_pairs, .ref m_goesWith, .ref m_said, .int 0, .int 0, .ref m_firstOrder, .int 0, .ref m_tiredBy, .int 0, .ref m_many, .ref m_width, .ref m_numbers, .ref m_moving])), (m_world, .inl (cA 1, 122, .inl (fun _ => 0)))]) [0, 1] rfl) (k_X12_asksRow l D cA h0 m_world m_images m_hasImage m_tape m_five m_fresh m_sums m_pairs m_goesWith m_said m_firstOrder m_tiredBy m_many m_width m_numbers m_moving p0 p1) (tb_V tw_1842 tw_1844 tw_74 tw_114 tw_1845) hdX12_asksRow ⟨rfl, rfl, Nat.le_of_ble_eq_true rfl, Nat.le_of_ble_eq_true rfl⟩ ⟨Nat.le_of_ble_eq_true rfl, Nat.le_of_ble_eq_true rfl⟩ rfl rfl rfl hl.1 rfl (Nat.le_of_ble_eq_true rfl) dX12_cut_3 (fun r_1 hr_1 => ?_)
  obtain rfl : r_1 = (-2) := hr_1
  refine lv_istore_n (lv' := [(3, .int (-2)), (0, .ref h0), (1, .int p0), (2, .int p1)]) hx hb dX12_cut_6 rfl hl (by decide) rfl (fun ls hl => ?_)
  refine lv_iload_n hx hb dX12_cut_7 rfl (lv_at hl 0 rfl) ?_
  refine lv_if_ge (tgt := 13) hx hb dX12_cut_8 (by decide) (fun c_2 => absurd c_2 (by decide)) (fun c_2 => ?_)
  refine lv_iload_n hx hb dX12_cut_11 rfl (lv_at hl 0 rfl) ?_
  exact W.iret (v := (-2)) hx hb hr (fun t ht hW => ⟨(-2), rfl, rfl, ht⟩) (fun _ h => by cases h) dX12_cut_12
set_option maxHeartbeats 4000000 in
set_option maxRecDepth 100000 in
theorem k_X12_waits (l : Launch) (D : va_G) (cA : Nat → ClassId) (h0 : Nat) (m_world : Nat) (m_images : Nat) (m_hasImage : Nat) (m_tape : Nat) (m_five : Nat) (m_fresh : Nat) (m_sums : Nat) (m_pairs : Nat) (m_goesWith : Nat) (m_said : Nat) (m_firstOrder : Nat) (m_tiredBy : Nat) (m_many : Nat) (m_width : Nat) (m_numbers : Nat) (m_moving : Nat) (p0 : Int32) (p1 : Int32) : Met l yX12_waits (Cond.code yX12_waits cX12_waits 4 (some .int) :: TB) (rmd 3 0 0) (PP D cA [(h0, .inr (12, [.int 0, .ref m_world, .ref m_images, .ref m_hasImage, .ref m_tape, .int 0, .ref m_five, .int 0, .int 0, .int 0, .int 0, .int 0, .int 0, .int (-1), .ref m_fresh, .int 0, .int 0, .int 0, .int 0, .int 0, .int 0, .ref m_sums, .ref m_pairs, .ref m_goesWith, .ref m_said, .int 0, .int 0, .ref m_firstOrder, .int 0, .ref m_tiredBy, .int 0, .ref m_many, .ref m_width, .ref m_numbers, .ref m_moving])), (m_world, .inl (cA 1, 122, .inl (fun _ => 0)))] [.ref h0, .int p0, .int p1]) (vp_Si (fun r => r = (-2))) 0 0 (fun _ => False) := by
  refine Met.ofW (cc := cX12_waits) (maxL := 4) (ret := (some .int)) (by decide) rfl ?_
  intro p e s m args below meth c s₁ B hml hv
  obtain ⟨rfl, hP, hKN⟩ := hv
  have hx := B.exec
  have hb := B.bytes
  have hr := B.returns
  have hts : ∀ w ∈ TB, w.before _ s = true := fun w h => atoms_spec B.pre w (List.mem_cons_of_mem _ h)
  have hown : s.vm.findClass RX12 = some m.cls := findClass_of_methodNamed B.named
  have hlocks := B.notSynchronized
  have hl := lv_entry ([.ref h0, .int p0, .int p1]) (n := 4) (Nat.le_of_ble_eq_true rfl)
  rw [lg_entry_eq]
  generalize (lg_sl ([.ref h0, .int p0, .int p1]) ++ List.replicate (4 - (lg_sl ([.ref h0, .int p0, .int p1])).length) Slot.unset).toArray = ls at hl ⊢
  have hl : lv_has ls 4 [(0, .ref h0), (1, .int p0), (2, .int p1)] := hl
  refine lv_aload_n hx hb dX12_waits_0 rfl (lv_at hl 0 rfl) ?_
  refine lv_iload_n hx hb dX12_waits_1 rfl (lv_at hl 1 rfl) ?_
  refine lv_iload_n hx hb dX12_waits_2 rfl (lv_at hl 2 rfl) ?_
  refine cpVi (rest := []) ⟨hx, hb, hml, hown, hts⟩ hKN (hP.sub (ws' := [(h0, .inr (12, [.int 0, .ref m_world, .ref m_images, .ref m_hasImage, .ref m_tape, .int 0, .ref m_five, .int 0, .int 0, .int 0, .int 0, .int 0, .int 0, .int (-1), .ref m_fresh, .int 0, .int 0, .int 0, .int 0, .int 0, .int 0, .ref m_sums, .ref m_pairs, .ref m_goesWith, .ref m_said, .int 0, .int 0, .ref m_firstOrder, .int 0, .ref m_tiredBy, .int 0, .ref m_many, .ref m_width, .ref m_numbers, .ref m_moving])), (m_world, .inl (cA 1, 122, .inl (fun _ => 0)))]) [0, 1] rfl) (k_X12_asksRow l D cA h0 m_world m_images m_hasImage m_tape m_five m_fresh m_sums m_pairs m_goesWith m_said m_firstOrder m_tiredBy m_many m_width m_numbers m_moving p0 p1) (tb_V tw_1842 tw_1844 tw_74 tw_114 tw_1845) hdX12_asksRow ⟨rfl, rfl, Nat.le_of_ble_eq_true rfl, Nat.le_of_ble_eq_true rfl⟩ ⟨Nat.le_of_ble_eq_true rfl, Nat.le_of_ble_eq_true rfl⟩ rfl rfl rfl hl.1 rfl (Nat.le_of_ble_eq_true rfl) dX12_waits_3 (fun r_1 hr_1 => ?_)
  obtain rfl : r_1 = (-2) := hr_1
  refine lv_istore_n (lv' := [(3, .int (-2)), (0, .ref h0), (1, .int p0), (2, .int p1)]) hx hb dX12_waits_6 rfl hl (by decide) rfl (fun ls hl => ?_)
  refine lv_iload_n hx hb dX12_waits_7 rfl (lv_at hl 0 rfl) ?_
  refine lv_if_ge (tgt := 13) hx hb dX12_waits_8 (by decide) (fun c_2 => absurd c_2 (by decide)) (fun c_2 => ?_)
  refine lv_iload_n hx hb dX12_waits_11 rfl (lv_at hl 0 rfl) ?_
  exact W.iret (v := (-2)) hx hb hr (fun t ht hW => ⟨(-2), rfl, rfl, ht⟩) (fun _ h => by cases h) dX12_waits_12
set_option maxHeartbeats 4000000 in
set_option maxRecDepth 100000 in
theorem k_X12_least (l : Launch) (D : va_G) (cA : Nat → ClassId) (h0 : Nat) (m_world : Nat) (m_images : Nat) (m_hasImage : Nat) (m_tape : Nat) (m_five : Nat) (m_fresh : Nat) (m_sums : Nat) (m_pairs : Nat) (m_goesWith : Nat) (m_said : Nat) (m_firstOrder : Nat) (m_tiredBy : Nat) (m_many : Nat) (m_width : Nat) (m_numbers : Nat) (m_moving : Nat) (p0 : Int32) : Met l yX12_least (Cond.code yX12_least cX12_least 2 (some .int) :: TB) (rmd 2 0 0) (PP D cA [(h0, .inr (12, [.int 0, .ref m_world, .ref m_images, .ref m_hasImage, .ref m_tape, .int 0, .ref m_five, .int 0, .int 0, .int 0, .int 0, .int 0, .int 0, .int (-1), .ref m_fresh, .int 0, .int 0, .int 0, .int 0, .int 0, .int 0, .ref m_sums, .ref m_pairs, .ref m_goesWith, .ref m_said, .int 0, .int 0, .ref m_firstOrder, .int 0, .ref m_tiredBy, .int 0, .ref m_many, .ref m_width, .ref m_numbers, .ref m_moving])), (m_world, .inl (cA 1, 122, .inl (fun _ => 0)))] [.ref h0, .int p0]) (vp_Si (fun r => r = (-2))) 0 0 (fun _ => False) := by
  refine Met.ofW (cc := cX12_least) (maxL := 2) (ret := (some .int)) (by decide) rfl ?_
  intro p e s m args below meth c s₁ B hml hv
  obtain ⟨rfl, hP, hKN⟩ := hv
  have hx := B.exec
  have hb := B.bytes
  have hr := B.returns
  have hts : ∀ w ∈ TB, w.before _ s = true := fun w h => atoms_spec B.pre w (List.mem_cons_of_mem _ h)
  have hown : s.vm.findClass RX12 = some m.cls := findClass_of_methodNamed B.named
  have hlocks := B.notSynchronized
  have hl := lv_entry ([.ref h0, .int p0]) (n := 2) (Nat.le_of_ble_eq_true rfl)
  rw [lg_entry_eq]
  generalize (lg_sl ([.ref h0, .int p0]) ++ List.replicate (2 - (lg_sl ([.ref h0, .int p0])).length) Slot.unset).toArray = ls at hl ⊢
  have hl : lv_has ls 2 [(0, .ref h0), (1, .int p0)] := hl
  refine lv_aload_n hx hb dX12_least_0 rfl (lv_at hl 0 rfl) ?_
  refine lv_iload_n hx hb dX12_least_1 rfl (lv_at hl 1 rfl) ?_
  refine lv_iconst (v := 1) hx hb dX12_least_2 (by decide) ?_
  refine cpVi (rest := []) ⟨hx, hb, hml, hown, hts⟩ hKN (hP.sub (ws' := [(h0, .inr (12, [.int 0, .ref m_world, .ref m_images, .ref m_hasImage, .ref m_tape, .int 0, .ref m_five, .int 0, .int 0, .int 0, .int 0, .int 0, .int 0, .int (-1), .ref m_fresh, .int 0, .int 0, .int 0, .int 0, .int 0, .int 0, .ref m_sums, .ref m_pairs, .ref m_goesWith, .ref m_said, .int 0, .int 0, .ref m_firstOrder, .int 0, .ref m_tiredBy, .int 0, .ref m_many, .ref m_width, .ref m_numbers, .ref m_moving])), (m_world, .inl (cA 1, 122, .inl (fun _ => 0)))]) [0, 1] rfl) (k_X12_isHold l D cA h0 m_world m_images m_hasImage m_tape m_five m_fresh m_sums m_pairs m_goesWith m_said m_firstOrder m_tiredBy m_many m_width m_numbers m_moving p0 1) (tb_V tw_1871 tw_1873 tw_78 tw_114 tw_1874) hdX12_isHold ⟨rfl, rfl, Nat.le_of_ble_eq_true rfl, Nat.le_of_ble_eq_true rfl⟩ ⟨Nat.le_of_ble_eq_true rfl, Nat.le_of_ble_eq_true rfl⟩ rfl rfl rfl hl.1 rfl (Nat.le_of_ble_eq_true rfl) dX12_least_3 (fun r_1 hr_1 => ?_)
  obtain rfl : r_1 = 0 := hr_1
  refine lv_if_eq (tgt := 17) hx hb dX12_least_6 (by decide) (fun c_2 => ?_) (fun c_2 => absurd (by decide) c_2)
  refine lv_bipush (v := (-2)) hx hb dX12_least_17 (by decide) ?_
  exact W.iret (v := (-2)) hx hb hr (fun t ht hW => ⟨(-2), rfl, rfl, ht⟩) (fun _ h => by cases h) dX12_least_19
set_option maxHeartbeats 4000000 in
set_option maxRecDepth 100000 in
theorem k_X12_order (l : Launch) (D : va_G) (cA : Nat → ClassId) (h0 : Nat) (m_world : Nat) (m_images : Nat) (m_hasImage : Nat) (m_tape : Nat) (m_five : Nat) (m_fresh : Nat) (m_sums : Nat) (m_pairs : Nat) (m_goesWith : Nat) (m_said : Nat) (m_firstOrder : Nat) (m_tiredBy : Nat) (m_many : Nat) (m_width : Nat) (m_numbers : Nat) (m_moving : Nat) (p0 : Int32) (p1 : Int32) : Met l yX12_order (Cond.code yX12_order cX12_order 3 (some .int) :: TB) (rmd 2 0 0) (PP D cA [(h0, .inr (12, [.int 0, .ref m_world, .ref m_images, .ref m_hasImage, .ref m_tape, .int 0, .ref m_five, .int 0, .int 0, .int 0, .int 0, .int 0, .int 0, .int (-1), .ref m_fresh, .int 0, .int 0, .int 0, .int 0, .int 0, .int 0, .ref m_sums, .ref m_pairs, .ref m_goesWith, .ref m_said, .int 0, .int 0, .ref m_firstOrder, .int 0, .ref m_tiredBy, .int 0, .ref m_many, .ref m_width, .ref m_numbers, .ref m_moving])), (m_world, .inl (cA 1, 122, .inl (fun _ => 0)))] [.ref h0, .int p0, .int p1]) (vp_Si (fun r => r = (-2))) 0 0 (fun _ => False) := by
  refine Met.ofW (cc := cX12_order) (maxL := 3) (ret := (some .int)) (by decide) rfl ?_
  intro p e s m args below meth c s₁ B hml hv
  obtain ⟨rfl, hP, hKN⟩ := hv
  have hx := B.exec
  have hb := B.bytes
  have hr := B.returns
  have hts : ∀ w ∈ TB, w.before _ s = true := fun w h => atoms_spec B.pre w (List.mem_cons_of_mem _ h)
  have hown : s.vm.findClass RX12 = some m.cls := findClass_of_methodNamed B.named
  have hlocks := B.notSynchronized
  have hl := lv_entry ([.ref h0, .int p0, .int p1]) (n := 3) (Nat.le_of_ble_eq_true rfl)
  rw [lg_entry_eq]
  generalize (lg_sl ([.ref h0, .int p0, .int p1]) ++ List.replicate (3 - (lg_sl ([.ref h0, .int p0, .int p1])).length) Slot.unset).toArray = ls at hl ⊢
  have hl : lv_has ls 3 [(0, .ref h0), (1, .int p0), (2, .int p1)] := hl
  refine lv_aload_n hx hb dX12_order_0 rfl (lv_at hl 0 rfl) ?_
  refine lv_iload_n hx hb dX12_order_1 rfl (lv_at hl 1 rfl) ?_
  refine lv_iconst (v := 1) hx hb dX12_order_2 (by decide) ?_
  refine cpVi (rest := []) ⟨hx, hb, hml, hown, hts⟩ hKN (hP.sub (ws' := [(h0, .inr (12, [.int 0, .ref m_world, .ref m_images, .ref m_hasImage, .ref m_tape, .int 0, .ref m_five, .int 0, .int 0, .int 0, .int 0, .int 0, .int 0, .int (-1), .ref m_fresh, .int 0, .int 0, .int 0, .int 0, .int 0, .int 0, .ref m_sums, .ref m_pairs, .ref m_goesWith, .ref m_said, .int 0, .int 0, .ref m_firstOrder, .int 0, .ref m_tiredBy, .int 0, .ref m_many, .ref m_width, .ref m_numbers, .ref m_moving])), (m_world, .inl (cA 1, 122, .inl (fun _ => 0)))]) [0, 1] rfl) (k_X12_isHold l D cA h0 m_world m_images m_hasImage m_tape m_five m_fresh m_sums m_pairs m_goesWith m_said m_firstOrder m_tiredBy m_many m_width m_numbers m_moving p0 1) (tb_V tw_1871 tw_1873 tw_78 tw_114 tw_1874) hdX12_isHold ⟨rfl, rfl, Nat.le_of_ble_eq_true rfl, Nat.le_of_ble_eq_true rfl⟩ ⟨Nat.le_of_ble_eq_true rfl, Nat.le_of_ble_eq_true rfl⟩ rfl rfl rfl hl.1 rfl (Nat.le_of_ble_eq_true rfl) dX12_order_3 (fun r_1 hr_1 => ?_)
  obtain rfl : r_1 = 0 := hr_1
  refine lv_if_ne (tgt := 12) hx hb dX12_order_6 (by decide) (fun c_2 => absurd (by decide) c_2) (fun c_2 => ?_)
  refine lv_bipush (v := (-2)) hx hb dX12_order_9 (by decide) ?_
  exact W.iret (v := (-2)) hx hb hr (fun t ht hW => ⟨(-2), rfl, rfl, ht⟩) (fun _ h => by cases h) dX12_order_11
set_option maxHeartbeats 4000000 in
set_option maxRecDepth 100000 in
theorem k_X12_needs_ (l : Launch) (D : va_G) (cA : Nat → ClassId) (h0 : Nat) (m_world : Nat) (m_images : Nat) (m_hasImage : Nat) (m_tape : Nat) (m_five : Nat) (m_fresh : Nat) (m_sums : Nat) (m_pairs : Nat) (m_goesWith : Nat) (m_said : Nat) (m_firstOrder : Nat) (m_tiredBy : Nat) (m_many : Nat) (m_width : Nat) (m_numbers : Nat) (m_moving : Nat) (p0 : Int32) : Met l yX12_needs_ (Cond.code yX12_needs_ cX12_needs_ 6 (some .int) :: TB) (rmd 1 0 0) (PP D cA [(h0, .inr (12, [.int 0, .ref m_world, .ref m_images, .ref m_hasImage, .ref m_tape, .int 0, .ref m_five, .int 0, .int 0, .int 0, .int 0, .int 0, .int 0, .int (-1), .ref m_fresh, .int 0, .int 0, .int 0, .int 0, .int 0, .int 0, .ref m_sums, .ref m_pairs, .ref m_goesWith, .ref m_said, .int 0, .int 0, .ref m_firstOrder, .int 0, .ref m_tiredBy, .int 0, .ref m_many, .ref m_width, .ref m_numbers, .ref m_moving])), (m_world, .inl (cA 1, 122, .inl (fun _ => 0)))] [.ref h0, .int p0]) (vp_Si (fun r => r = (-2))) 0 0 (fun _ => False) := by
  refine Met.ofW (cc := cX12_needs_) (maxL := 6) (ret := (some .int)) (by decide) rfl ?_
  intro p e s m args below meth c s₁ B hml hv
  obtain ⟨rfl, hP, hKN⟩ := hv
  have hx := B.exec
  have hb := B.bytes
  have hr := B.returns
  have hts : ∀ w ∈ TB, w.before _ s = true := fun w h => atoms_spec B.pre w (List.mem_cons_of_mem _ h)
  have hown : s.vm.findClass RX12 = some m.cls := findClass_of_methodNamed B.named
  have hlocks := B.notSynchronized
  have hl := lv_entry ([.ref h0, .int p0]) (n := 6) (Nat.le_of_ble_eq_true rfl)
  rw [lg_entry_eq]
  generalize (lg_sl ([.ref h0, .int p0]) ++ List.replicate (6 - (lg_sl ([.ref h0, .int p0])).length) Slot.unset).toArray = ls at hl ⊢
  have hl : lv_has ls 6 [(0, .ref h0), (1, .int p0)] := hl
  refine lv_aload_n hx hb dX12_needs__0 rfl (lv_at hl 0 rfl) ?_
  refine cpVi (rest := []) ⟨hx, hb, hml, hown, hts⟩ hKN (hP.sub (ws' := [(h0, .inr (12, [.int 0, .ref m_world, .ref m_images, .ref m_hasImage, .ref m_tape, .int 0, .ref m_five, .int 0, .int 0, .int 0, .int 0, .int 0, .int 0, .int (-1), .ref m_fresh, .int 0, .int 0, .int 0, .int 0, .int 0, .int 0, .ref m_sums, .ref m_pairs, .ref m_goesWith, .ref m_said, .int 0, .int 0, .ref m_firstOrder, .int 0, .ref m_tiredBy, .int 0, .ref m_many, .ref m_width, .ref m_numbers, .ref m_moving])), (m_world, .inl (cA 1, 122, .inl (fun _ => 0)))]) [0, 1] rfl) (k_X12_isGorge l D cA h0 m_world m_images m_hasImage m_tape m_five m_fresh m_sums m_pairs m_goesWith m_said m_firstOrder m_tiredBy m_many m_width m_numbers m_moving) (tb_V tw_1664 tw_1666 tw_54 tw_114 tw_1667) hdX12_isGorge ⟨rfl, rfl, Nat.le_of_ble_eq_true rfl, Nat.le_of_ble_eq_true rfl⟩ ⟨Nat.le_of_ble_eq_true rfl, Nat.le_of_ble_eq_true rfl⟩ rfl rfl rfl hl.1 rfl (Nat.le_of_ble_eq_true rfl) dX12_needs__1 (fun r_1 hr_1 => ?_)
  obtain rfl : r_1 = 0 := hr_1
  refine lv_if_eq (tgt := 19) hx hb dX12_needs__4 (by decide) (fun c_2 => ?_) (fun c_2 => absurd (by decide) c_2)
  refine lv_bipush (v := (-2)) hx hb dX12_needs__19 (by decide) ?_
  exact W.iret (v := (-2)) hx hb hr (fun t ht hW => ⟨(-2), rfl, rfl, ht⟩) (fun _ h => by cases h) dX12_needs__21
set_option maxHeartbeats 4000000 in
set_option maxRecDepth 100000 in
theorem k_X12_ends (l : Launch) (D : va_G) (cA : Nat → ClassId) (h0 : Nat) (m_world : Nat) (m_images : Nat) (m_hasImage : Nat) (m_tape : Nat) (m_five : Nat) (m_fresh : Nat) (m_sums : Nat) (m_pairs : Nat) (m_goesWith : Nat) (m_said : Nat) (m_firstOrder : Nat) (m_tiredBy : Nat) (m_many : Nat) (m_width : Nat) (m_numbers : Nat) (m_moving : Nat) (p0 : Int32) : Met l yX12_ends (Cond.code yX12_ends cX12_ends 3 (some .int) :: TB) (rmd 2 0 0) (PP D cA [(h0, .inr (12, [.int 0, .ref m_world, .ref m_images, .ref m_hasImage, .ref m_tape, .int 0, .ref m_five, .int 0, .int 0, .int 0, .int 0, .int 0, .int 0, .int (-1), .ref m_fresh, .int 0, .int 0, .int 0, .int 0, .int 0, .int 0, .ref m_sums, .ref m_pairs, .ref m_goesWith, .ref m_said, .int 0, .int 0, .ref m_firstOrder, .int 0, .ref m_tiredBy, .int 0, .ref m_many, .ref m_width, .ref m_numbers, .ref m_moving])), (m_world, .inl (cA 1, 122, .inl (fun _ => 0)))] [.ref h0, .int p0]) (vp_Si (fun r => r = (-2))) 0 0 (fun _ => False) := by
  refine Met.ofW (cc := cX12_ends) (maxL := 3) (ret := (some .int)) (by decide) rfl ?_
  intro p e s m args below meth c s₁ B hml hv
  obtain ⟨rfl, hP, hKN⟩ := hv
  have hx := B.exec
  have hb := B.bytes
  have hr := B.returns
  have hts : ∀ w ∈ TB, w.before _ s = true := fun w h => atoms_spec B.pre w (List.mem_cons_of_mem _ h)
  have hown : s.vm.findClass RX12 = some m.cls := findClass_of_methodNamed B.named
  have hlocks := B.notSynchronized
  have hl := lv_entry ([.ref h0, .int p0]) (n := 3) (Nat.le_of_ble_eq_true rfl)
  rw [lg_entry_eq]
  generalize (lg_sl ([.ref h0, .int p0]) ++ List.replicate (3 - (lg_sl ([.ref h0, .int p0])).length) Slot.unset).toArray = ls at hl ⊢
  have hl : lv_has ls 3 [(0, .ref h0), (1, .int p0)] := hl
  refine lv_aload_n hx hb dX12_ends_0 rfl (lv_at hl 0 rfl) ?_
  refine lv_iload_n hx hb dX12_ends_1 rfl (lv_at hl 1 rfl) ?_
  refine lv_iconst (v := 1) hx hb dX12_ends_2 (by decide) ?_
  refine cpVi (rest := []) ⟨hx, hb, hml, hown, hts⟩ hKN (hP.sub (ws' := [(h0, .inr (12, [.int 0, .ref m_world, .ref m_images, .ref m_hasImage, .ref m_tape, .int 0, .ref m_five, .int 0, .int 0, .int 0, .int 0, .int 0, .int 0, .int (-1), .ref m_fresh, .int 0, .int 0, .int 0, .int 0, .int 0, .int 0, .ref m_sums, .ref m_pairs, .ref m_goesWith, .ref m_said, .int 0, .int 0, .ref m_firstOrder, .int 0, .ref m_tiredBy, .int 0, .ref m_many, .ref m_width, .ref m_numbers, .ref m_moving])), (m_world, .inl (cA 1, 122, .inl (fun _ => 0)))]) [0, 1] rfl) (k_X12_isHold l D cA h0 m_world m_images m_hasImage m_tape m_five m_fresh m_sums m_pairs m_goesWith m_said m_firstOrder m_tiredBy m_many m_width m_numbers m_moving p0 1) (tb_V tw_1871 tw_1873 tw_78 tw_114 tw_1874) hdX12_isHold ⟨rfl, rfl, Nat.le_of_ble_eq_true rfl, Nat.le_of_ble_eq_true rfl⟩ ⟨Nat.le_of_ble_eq_true rfl, Nat.le_of_ble_eq_true rfl⟩ rfl rfl rfl hl.1 rfl (Nat.le_of_ble_eq_true rfl) dX12_ends_3 (fun r_1 hr_1 => ?_)
  obtain rfl : r_1 = 0 := hr_1
  refine lv_if_ne (tgt := 12) hx hb dX12_ends_6 (by decide) (fun c_2 => absurd (by decide) c_2) (fun c_2 => ?_)
  refine lv_bipush (v := (-2)) hx hb dX12_ends_9 (by decide) ?_
  exact W.iret (v := (-2)) hx hb hr (fun t ht hW => ⟨(-2), rfl, rfl, ht⟩) (fun _ h => by cases h) dX12_ends_11
set_option maxHeartbeats 4000000 in
set_option maxRecDepth 100000 in
theorem k_X12_full (l : Launch) (D : va_G) (cA : Nat → ClassId) (h0 : Nat) (m_world : Nat) (m_images : Nat) (m_hasImage : Nat) (m_tape : Nat) (m_five : Nat) (m_fresh : Nat) (m_sums : Nat) (m_pairs : Nat) (m_goesWith : Nat) (m_said : Nat) (m_firstOrder : Nat) (m_tiredBy : Nat) (m_many : Nat) (m_width : Nat) (m_numbers : Nat) (m_moving : Nat) (p0 : Int32) : Met l yX12_full (Cond.code yX12_full cX12_full 2 (some .int) :: TB) (rmd 2 0 0) (PP D cA [(h0, .inr (12, [.int 0, .ref m_world, .ref m_images, .ref m_hasImage, .ref m_tape, .int 0, .ref m_five, .int 0, .int 0, .int 0, .int 0, .int 0, .int 0, .int (-1), .ref m_fresh, .int 0, .int 0, .int 0, .int 0, .int 0, .int 0, .ref m_sums, .ref m_pairs, .ref m_goesWith, .ref m_said, .int 0, .int 0, .ref m_firstOrder, .int 0, .ref m_tiredBy, .int 0, .ref m_many, .ref m_width, .ref m_numbers, .ref m_moving])), (m_world, .inl (cA 1, 122, .inl (fun _ => 0)))] [.ref h0, .int p0]) (vp_Si (fun r => r = (-2))) 0 0 (fun _ => False) := by
  refine Met.ofW (cc := cX12_full) (maxL := 2) (ret := (some .int)) (by decide) rfl ?_
  intro p e s m args below meth c s₁ B hml hv
  obtain ⟨rfl, hP, hKN⟩ := hv
  have hx := B.exec
  have hb := B.bytes
  have hr := B.returns
  have hts : ∀ w ∈ TB, w.before _ s = true := fun w h => atoms_spec B.pre w (List.mem_cons_of_mem _ h)
  have hown : s.vm.findClass RX12 = some m.cls := findClass_of_methodNamed B.named
  have hlocks := B.notSynchronized
  have hl := lv_entry ([.ref h0, .int p0]) (n := 2) (Nat.le_of_ble_eq_true rfl)
  rw [lg_entry_eq]
  generalize (lg_sl ([.ref h0, .int p0]) ++ List.replicate (2 - (lg_sl ([.ref h0, .int p0])).length) Slot.unset).toArray = ls at hl ⊢
  have hl : lv_has ls 2 [(0, .ref h0), (1, .int p0)] := hl
  refine lv_aload_n hx hb dX12_full_0 rfl (lv_at hl 0 rfl) ?_
  refine lv_iload_n hx hb dX12_full_1 rfl (lv_at hl 1 rfl) ?_
  refine lv_iconst (v := 0) hx hb dX12_full_2 (by decide) ?_
  refine cpVi (rest := []) ⟨hx, hb, hml, hown, hts⟩ hKN (hP.sub (ws' := [(h0, .inr (12, [.int 0, .ref m_world, .ref m_images, .ref m_hasImage, .ref m_tape, .int 0, .ref m_five, .int 0, .int 0, .int 0, .int 0, .int 0, .int 0, .int (-1), .ref m_fresh, .int 0, .int 0, .int 0, .int 0, .int 0, .int 0, .ref m_sums, .ref m_pairs, .ref m_goesWith, .ref m_said, .int 0, .int 0, .ref m_firstOrder, .int 0, .ref m_tiredBy, .int 0, .ref m_many, .ref m_width, .ref m_numbers, .ref m_moving])), (m_world, .inl (cA 1, 122, .inl (fun _ => 0)))]) [0, 1] rfl) (k_X12_isHold l D cA h0 m_world m_images m_hasImage m_tape m_five m_fresh m_sums m_pairs m_goesWith m_said m_firstOrder m_tiredBy m_many m_width m_numbers m_moving p0 0) (tb_V tw_1871 tw_1873 tw_78 tw_114 tw_1874) hdX12_isHold ⟨rfl, rfl, Nat.le_of_ble_eq_true rfl, Nat.le_of_ble_eq_true rfl⟩ ⟨Nat.le_of_ble_eq_true rfl, Nat.le_of_ble_eq_true rfl⟩ rfl rfl rfl hl.1 rfl (Nat.le_of_ble_eq_true rfl) dX12_full_3 (fun r_1 hr_1 => ?_)
  obtain rfl : r_1 = 0 := hr_1
  refine lv_if_eq (tgt := 20) hx hb dX12_full_6 (by decide) (fun c_2 => ?_) (fun c_2 => absurd (by decide) c_2)
  refine lv_bipush (v := (-2)) hx hb dX12_full_20 (by decide) ?_
  exact W.iret (v := (-2)) hx hb hr (fun t ht hW => ⟨(-2), rfl, rfl, ht⟩) (fun _ h => by cases h) dX12_full_22
set_option maxHeartbeats 4000000 in
set_option maxRecDepth 100000 in
theorem k_X12_fulls (l : Launch) (D : va_G) (cA : Nat → ClassId) (h0 : Nat) (m_world : Nat) (m_images : Nat) (m_hasImage : Nat) (m_tape : Nat) (m_five : Nat) (m_fresh : Nat) (m_sums : Nat) (m_pairs : Nat) (m_goesWith : Nat) (m_said : Nat) (m_firstOrder : Nat) (m_tiredBy : Nat) (m_many : Nat) (m_width : Nat) (m_numbers : Nat) (m_moving : Nat) (p0 : Int32) : Met l yX12_fulls (Cond.code yX12_fulls cX12_fulls 2 (some .int) :: TB) (rmd 2 0 0) (PP D cA [(h0, .inr (12, [.int 0, .ref m_world, .ref m_images, .ref m_hasImage, .ref m_tape, .int 0, .ref m_five, .int 0, .int 0, .int 0, .int 0, .int 0, .int 0, .int (-1), .ref m_fresh, .int 0, .int 0, .int 0, .int 0, .int 0, .int 0, .ref m_sums, .ref m_pairs, .ref m_goesWith, .ref m_said, .int 0, .int 0, .ref m_firstOrder, .int 0, .ref m_tiredBy, .int 0, .ref m_many, .ref m_width, .ref m_numbers, .ref m_moving])), (m_world, .inl (cA 1, 122, .inl (fun _ => 0)))] [.ref h0, .int p0]) (vp_Si (fun r => r = (-2))) 0 0 (fun _ => False) := by
  refine Met.ofW (cc := cX12_fulls) (maxL := 2) (ret := (some .int)) (by decide) rfl ?_
  intro p e s m args below meth c s₁ B hml hv
  obtain ⟨rfl, hP, hKN⟩ := hv
  have hx := B.exec
  have hb := B.bytes
  have hr := B.returns
  have hts : ∀ w ∈ TB, w.before _ s = true := fun w h => atoms_spec B.pre w (List.mem_cons_of_mem _ h)
  have hown : s.vm.findClass RX12 = some m.cls := findClass_of_methodNamed B.named
  have hlocks := B.notSynchronized
  have hl := lv_entry ([.ref h0, .int p0]) (n := 2) (Nat.le_of_ble_eq_true rfl)
  rw [lg_entry_eq]
  generalize (lg_sl ([.ref h0, .int p0]) ++ List.replicate (2 - (lg_sl ([.ref h0, .int p0])).length) Slot.unset).toArray = ls at hl ⊢
  have hl : lv_has ls 2 [(0, .ref h0), (1, .int p0)] := hl
  refine lv_aload_n hx hb dX12_fulls_0 rfl (lv_at hl 0 rfl) ?_
  refine lv_iload_n hx hb dX12_fulls_1 rfl (lv_at hl 1 rfl) ?_
  refine lv_iconst (v := 0) hx hb dX12_fulls_2 (by decide) ?_
  refine cpVi (rest := []) ⟨hx, hb, hml, hown, hts⟩ hKN (hP.sub (ws' := [(h0, .inr (12, [.int 0, .ref m_world, .ref m_images, .ref m_hasImage, .ref m_tape, .int 0, .ref m_five, .int 0, .int 0, .int 0, .int 0, .int 0, .int 0, .int (-1), .ref m_fresh, .int 0, .int 0, .int 0, .int 0, .int 0, .int 0, .ref m_sums, .ref m_pairs, .ref m_goesWith, .ref m_said, .int 0, .int 0, .ref m_firstOrder, .int 0, .ref m_tiredBy, .int 0, .ref m_many, .ref m_width, .ref m_numbers, .ref m_moving])), (m_world, .inl (cA 1, 122, .inl (fun _ => 0)))]) [0, 1] rfl) (k_X12_isHold l D cA h0 m_world m_images m_hasImage m_tape m_five m_fresh m_sums m_pairs m_goesWith m_said m_firstOrder m_tiredBy m_many m_width m_numbers m_moving p0 0) (tb_V tw_1871 tw_1873 tw_78 tw_114 tw_1874) hdX12_isHold ⟨rfl, rfl, Nat.le_of_ble_eq_true rfl, Nat.le_of_ble_eq_true rfl⟩ ⟨Nat.le_of_ble_eq_true rfl, Nat.le_of_ble_eq_true rfl⟩ rfl rfl rfl hl.1 rfl (Nat.le_of_ble_eq_true rfl) dX12_fulls_3 (fun r_1 hr_1 => ?_)
  obtain rfl : r_1 = 0 := hr_1
  refine lv_if_eq (tgt := 17) hx hb dX12_fulls_6 (by decide) (fun c_2 => ?_) (fun c_2 => absurd (by decide) c_2)
  refine lv_bipush (v := (-2)) hx hb dX12_fulls_17 (by decide) ?_
  exact W.iret (v := (-2)) hx hb hr (fun t ht hW => ⟨(-2), rfl, rfl, ht⟩) (fun _ h => by cases h) dX12_fulls_19
set_option maxHeartbeats 4000000 in
set_option maxRecDepth 100000 in
theorem k_X12_once (l : Launch) (D : va_G) (cA : Nat → ClassId) (h0 : Nat) (m_world : Nat) (m_images : Nat) (m_hasImage : Nat) (m_tape : Nat) (m_five : Nat) (m_fresh : Nat) (m_sums : Nat) (m_pairs : Nat) (m_goesWith : Nat) (m_said : Nat) (m_firstOrder : Nat) (m_tiredBy : Nat) (m_many : Nat) (m_width : Nat) (m_numbers : Nat) (m_moving : Nat) (p0 : Int32) : Met l yX12_once (Cond.code yX12_once cX12_once 2 (some .int) :: TB) (rmd 2 0 0) (PP D cA [(h0, .inr (12, [.int 0, .ref m_world, .ref m_images, .ref m_hasImage, .ref m_tape, .int 0, .ref m_five, .int 0, .int 0, .int 0, .int 0, .int 0, .int 0, .int (-1), .ref m_fresh, .int 0, .int 0, .int 0, .int 0, .int 0, .int 0, .ref m_sums, .ref m_pairs, .ref m_goesWith, .ref m_said, .int 0, .int 0, .ref m_firstOrder, .int 0, .ref m_tiredBy, .int 0, .ref m_many, .ref m_width, .ref m_numbers, .ref m_moving])), (m_world, .inl (cA 1, 122, .inl (fun _ => 0)))] [.ref h0, .int p0]) (vp_Si (fun r => r = (-2))) 0 0 (fun _ => False) := by
  refine Met.ofW (cc := cX12_once) (maxL := 2) (ret := (some .int)) (by decide) rfl ?_
  intro p e s m args below meth c s₁ B hml hv
  obtain ⟨rfl, hP, hKN⟩ := hv
  have hx := B.exec
  have hb := B.bytes
  have hr := B.returns
  have hts : ∀ w ∈ TB, w.before _ s = true := fun w h => atoms_spec B.pre w (List.mem_cons_of_mem _ h)
  have hown : s.vm.findClass RX12 = some m.cls := findClass_of_methodNamed B.named
  have hlocks := B.notSynchronized
  have hl := lv_entry ([.ref h0, .int p0]) (n := 2) (Nat.le_of_ble_eq_true rfl)
  rw [lg_entry_eq]
  generalize (lg_sl ([.ref h0, .int p0]) ++ List.replicate (2 - (lg_sl ([.ref h0, .int p0])).length) Slot.unset).toArray = ls at hl ⊢
  have hl : lv_has ls 2 [(0, .ref h0), (1, .int p0)] := hl
  refine lv_aload_n hx hb dX12_once_0 rfl (lv_at hl 0 rfl) ?_
  refine lv_iload_n hx hb dX12_once_1 rfl (lv_at hl 1 rfl) ?_
  refine lv_iconst (v := 0) hx hb dX12_once_2 (by decide) ?_
  refine cpVi (rest := []) ⟨hx, hb, hml, hown, hts⟩ hKN (hP.sub (ws' := [(h0, .inr (12, [.int 0, .ref m_world, .ref m_images, .ref m_hasImage, .ref m_tape, .int 0, .ref m_five, .int 0, .int 0, .int 0, .int 0, .int 0, .int 0, .int (-1), .ref m_fresh, .int 0, .int 0, .int 0, .int 0, .int 0, .int 0, .ref m_sums, .ref m_pairs, .ref m_goesWith, .ref m_said, .int 0, .int 0, .ref m_firstOrder, .int 0, .ref m_tiredBy, .int 0, .ref m_many, .ref m_width, .ref m_numbers, .ref m_moving])), (m_world, .inl (cA 1, 122, .inl (fun _ => 0)))]) [0, 1] rfl) (k_X12_isHold l D cA h0 m_world m_images m_hasImage m_tape m_five m_fresh m_sums m_pairs m_goesWith m_said m_firstOrder m_tiredBy m_many m_width m_numbers m_moving p0 0) (tb_V tw_1871 tw_1873 tw_78 tw_114 tw_1874) hdX12_isHold ⟨rfl, rfl, Nat.le_of_ble_eq_true rfl, Nat.le_of_ble_eq_true rfl⟩ ⟨Nat.le_of_ble_eq_true rfl, Nat.le_of_ble_eq_true rfl⟩ rfl rfl rfl hl.1 rfl (Nat.le_of_ble_eq_true rfl) dX12_once_3 (fun r_1 hr_1 => ?_)
  obtain rfl : r_1 = 0 := hr_1
  refine lv_if_eq (tgt := 21) hx hb dX12_once_6 (by decide) (fun c_2 => ?_) (fun c_2 => absurd (by decide) c_2)
  refine lv_bipush (v := (-2)) hx hb dX12_once_21 (by decide) ?_
  exact W.iret (v := (-2)) hx hb hr (fun t ht hW => ⟨(-2), rfl, rfl, ht⟩) (fun _ h => by cases h) dX12_once_23
set_option maxHeartbeats 4000000 in
set_option maxRecDepth 100000 in
theorem k_X12_onces (l : Launch) (D : va_G) (cA : Nat → ClassId) (h0 : Nat) (m_world : Nat) (m_images : Nat) (m_hasImage : Nat) (m_tape : Nat) (m_five : Nat) (m_fresh : Nat) (m_sums : Nat) (m_pairs : Nat) (m_goesWith : Nat) (m_said : Nat) (m_firstOrder : Nat) (m_tiredBy : Nat) (m_many : Nat) (m_width : Nat) (m_numbers : Nat) (m_moving : Nat) (p0 : Int32) : Met l yX12_onces (Cond.code yX12_onces cX12_onces 2 (some .int) :: TB) (rmd 2 0 0) (PP D cA [(h0, .inr (12, [.int 0, .ref m_world, .ref m_images, .ref m_hasImage, .ref m_tape, .int 0, .ref m_five, .int 0, .int 0, .int 0, .int 0, .int 0, .int 0, .int (-1), .ref m_fresh, .int 0, .int 0, .int 0, .int 0, .int 0, .int 0, .ref m_sums, .ref m_pairs, .ref m_goesWith, .ref m_said, .int 0, .int 0, .ref m_firstOrder, .int 0, .ref m_tiredBy, .int 0, .ref m_many, .ref m_width, .ref m_numbers, .ref m_moving])), (m_world, .inl (cA 1, 122, .inl (fun _ => 0)))] [.ref h0, .int p0]) (vp_Si (fun r => r = (-2))) 0 0 (fun _ => False) := by
  refine Met.ofW (cc := cX12_onces) (maxL := 2) (ret := (some .int)) (by decide) rfl ?_
  intro p e s m args below meth c s₁ B hml hv
  obtain ⟨rfl, hP, hKN⟩ := hv
  have hx := B.exec
  have hb := B.bytes
  have hr := B.returns
  have hts : ∀ w ∈ TB, w.before _ s = true := fun w h => atoms_spec B.pre w (List.mem_cons_of_mem _ h)
  have hown : s.vm.findClass RX12 = some m.cls := findClass_of_methodNamed B.named
  have hlocks := B.notSynchronized
  have hl := lv_entry ([.ref h0, .int p0]) (n := 2) (Nat.le_of_ble_eq_true rfl)
  rw [lg_entry_eq]
  generalize (lg_sl ([.ref h0, .int p0]) ++ List.replicate (2 - (lg_sl ([.ref h0, .int p0])).length) Slot.unset).toArray = ls at hl ⊢
  have hl : lv_has ls 2 [(0, .ref h0), (1, .int p0)] := hl
  refine lv_aload_n hx hb dX12_onces_0 rfl (lv_at hl 0 rfl) ?_
  refine lv_iload_n hx hb dX12_onces_1 rfl (lv_at hl 1 rfl) ?_
  refine lv_iconst (v := 0) hx hb dX12_onces_2 (by decide) ?_
  refine cpVi (rest := []) ⟨hx, hb, hml, hown, hts⟩ hKN (hP.sub (ws' := [(h0, .inr (12, [.int 0, .ref m_world, .ref m_images, .ref m_hasImage, .ref m_tape, .int 0, .ref m_five, .int 0, .int 0, .int 0, .int 0, .int 0, .int 0, .int (-1), .ref m_fresh, .int 0, .int 0, .int 0, .int 0, .int 0, .int 0, .ref m_sums, .ref m_pairs, .ref m_goesWith, .ref m_said, .int 0, .int 0, .ref m_firstOrder, .int 0, .ref m_tiredBy, .int 0, .ref m_many, .ref m_width, .ref m_numbers, .ref m_moving])), (m_world, .inl (cA 1, 122, .inl (fun _ => 0)))]) [0, 1] rfl) (k_X12_isHold l D cA h0 m_world m_images m_hasImage m_tape m_five m_fresh m_sums m_pairs m_goesWith m_said m_firstOrder m_tiredBy m_many m_width m_numbers m_moving p0 0) (tb_V tw_1871 tw_1873 tw_78 tw_114 tw_1874) hdX12_isHold ⟨rfl, rfl, Nat.le_of_ble_eq_true rfl, Nat.le_of_ble_eq_true rfl⟩ ⟨Nat.le_of_ble_eq_true rfl, Nat.le_of_ble_eq_true rfl⟩ rfl rfl rfl hl.1 rfl (Nat.le_of_ble_eq_true rfl) dX12_onces_3 (fun r_1 hr_1 => ?_)
  obtain rfl : r_1 = 0 := hr_1
  refine lv_if_eq (tgt := 17) hx hb dX12_onces_6 (by decide) (fun c_2 => ?_) (fun c_2 => absurd (by decide) c_2)
  refine lv_bipush (v := (-2)) hx hb dX12_onces_17 (by decide) ?_
  exact W.iret (v := (-2)) hx hb hr (fun t ht hW => ⟨(-2), rfl, rfl, ht⟩) (fun _ h => by cases h) dX12_onces_19
set_option maxHeartbeats 4000000 in
set_option maxRecDepth 100000 in
theorem k_X12_signs (l : Launch) (D : va_G) (cA : Nat → ClassId) (h0 : Nat) (m_world : Nat) (m_images : Nat) (m_hasImage : Nat) (m_tape : Nat) (m_five : Nat) (m_fresh : Nat) (m_sums : Nat) (m_pairs : Nat) (m_goesWith : Nat) (m_said : Nat) (m_firstOrder : Nat) (m_tiredBy : Nat) (m_many : Nat) (m_width : Nat) (m_numbers : Nat) (m_moving : Nat) : Met l yX12_signs (Cond.code yX12_signs cX12_signs 3 (some .int) :: TB) (rmd 1 0 0) (PP D cA [(h0, .inr (12, [.int 0, .ref m_world, .ref m_images, .ref m_hasImage, .ref m_tape, .int 0, .ref m_five, .int 0, .int 0, .int 0, .int 0, .int 0, .int 0, .int (-1), .ref m_fresh, .int 0, .int 0, .int 0, .int 0, .int 0, .int 0, .ref m_sums, .ref m_pairs, .ref m_goesWith, .ref m_said, .int 0, .int 0, .ref m_firstOrder, .int 0, .ref m_tiredBy, .int 0, .ref m_many, .ref m_width, .ref m_numbers, .ref m_moving])), (m_world, .inl (cA 1, 122, .inl (fun _ => 0)))] [.ref h0]) (vp_Si (fun r => r = (-2))) 0 0 (fun _ => False) := by
  refine Met.ofW (cc := cX12_signs) (maxL := 3) (ret := (some .int)) (by decide) rfl ?_
  intro p e s m args below meth c s₁ B hml hv
  obtain ⟨rfl, hP, hKN⟩ := hv
  have hx := B.exec
  have hb := B.bytes
  have hr := B.returns
  have hts : ∀ w ∈ TB, w.before _ s = true := fun w h => atoms_spec B.pre w (List.mem_cons_of_mem _ h)
  have hown : s.vm.findClass RX12 = some m.cls := findClass_of_methodNamed B.named
  have hlocks := B.notSynchronized
  have hl := lv_entry ([.ref h0]) (n := 3) (Nat.le_of_ble_eq_true rfl)
  rw [lg_entry_eq]
  generalize (lg_sl ([.ref h0]) ++ List.replicate (3 - (lg_sl ([.ref h0])).length) Slot.unset).toArray = ls at hl ⊢
  have hl : lv_has ls 3 [(0, .ref h0)] := hl
  refine lv_aload_n hx hb dX12_signs_0 rfl (lv_at hl 0 rfl) ?_
  refine cpVi (rest := []) ⟨hx, hb, hml, hown, hts⟩ hKN (hP.sub (ws' := [(h0, .inr (12, [.int 0, .ref m_world, .ref m_images, .ref m_hasImage, .ref m_tape, .int 0, .ref m_five, .int 0, .int 0, .int 0, .int 0, .int 0, .int 0, .int (-1), .ref m_fresh, .int 0, .int 0, .int 0, .int 0, .int 0, .int 0, .ref m_sums, .ref m_pairs, .ref m_goesWith, .ref m_said, .int 0, .int 0, .ref m_firstOrder, .int 0, .ref m_tiredBy, .int 0, .ref m_many, .ref m_width, .ref m_numbers, .ref m_moving])), (m_world, .inl (cA 1, 122, .inl (fun _ => 0)))]) [0, 1] rfl) (k_X12_isGorge l D cA h0 m_world m_images m_hasImage m_tape m_five m_fresh m_sums m_pairs m_goesWith m_said m_firstOrder m_tiredBy m_many m_width m_numbers m_moving) (tb_V tw_1664 tw_1666 tw_54 tw_114 tw_1667) hdX12_isGorge ⟨rfl, rfl, Nat.le_of_ble_eq_true rfl, Nat.le_of_ble_eq_true rfl⟩ ⟨Nat.le_of_ble_eq_true rfl, Nat.le_of_ble_eq_true rfl⟩ rfl rfl rfl hl.1 rfl (Nat.le_of_ble_eq_true rfl) dX12_signs_1 (fun r_1 hr_1 => ?_)
  obtain rfl : r_1 = 0 := hr_1
  refine lv_if_ne (tgt := 10) hx hb dX12_signs_4 (by decide) (fun c_2 => absurd (by decide) c_2) (fun c_2 => ?_)
  refine lv_bipush (v := (-2)) hx hb dX12_signs_7 (by decide) ?_
  exact W.iret (v := (-2)) hx hb hr (fun t ht hW => ⟨(-2), rfl, rfl, ht⟩) (fun _ h => by cases h) dX12_signs_9
set_option maxHeartbeats 4000000 in
set_option maxRecDepth 100000 in
theorem k_X12_deal (l : Launch) (D : va_G) (cA : Nat → ClassId) (h0 : Nat) (m_world : Nat) (m_images : Nat) (m_hasImage : Nat) (m_tape : Nat) (m_five : Nat) (m_fresh : Nat) (m_sums : Nat) (m_pairs : Nat) (m_goesWith : Nat) (m_said : Nat) (m_firstOrder : Nat) (m_tiredBy : Nat) (m_many : Nat) (m_width : Nat) (m_numbers : Nat) (m_moving : Nat) : Met l yX12_deal (Cond.code yX12_deal cX12_deal 3 (some .int) :: TB) (rmd 1 0 0) (PP D cA [(h0, .inr (12, [.int 0, .ref m_world, .ref m_images, .ref m_hasImage, .ref m_tape, .int 0, .ref m_five, .int 0, .int 0, .int 0, .int 0, .int 0, .int 0, .int (-1), .ref m_fresh, .int 0, .int 0, .int 0, .int 0, .int 0, .int 0, .ref m_sums, .ref m_pairs, .ref m_goesWith, .ref m_said, .int 0, .int 0, .ref m_firstOrder, .int 0, .ref m_tiredBy, .int 0, .ref m_many, .ref m_width, .ref m_numbers, .ref m_moving])), (m_world, .inl (cA 1, 122, .inl (fun _ => 0)))] [.ref h0]) (vp_Si (fun r => r = (-2))) 0 0 (fun _ => False) := by
  refine Met.ofW (cc := cX12_deal) (maxL := 3) (ret := (some .int)) (by decide) rfl ?_
  intro p e s m args below meth c s₁ B hml hv
  obtain ⟨rfl, hP, hKN⟩ := hv
  have hx := B.exec
  have hb := B.bytes
  have hr := B.returns
  have hts : ∀ w ∈ TB, w.before _ s = true := fun w h => atoms_spec B.pre w (List.mem_cons_of_mem _ h)
  have hown : s.vm.findClass RX12 = some m.cls := findClass_of_methodNamed B.named
  have hlocks := B.notSynchronized
  have hl := lv_entry ([.ref h0]) (n := 3) (Nat.le_of_ble_eq_true rfl)
  rw [lg_entry_eq]
  generalize (lg_sl ([.ref h0]) ++ List.replicate (3 - (lg_sl ([.ref h0])).length) Slot.unset).toArray = ls at hl ⊢
  have hl : lv_has ls 3 [(0, .ref h0)] := hl
  refine lv_aload_n hx hb dX12_deal_0 rfl (lv_at hl 0 rfl) ?_
  refine cpVi (rest := []) ⟨hx, hb, hml, hown, hts⟩ hKN (hP.sub (ws' := [(h0, .inr (12, [.int 0, .ref m_world, .ref m_images, .ref m_hasImage, .ref m_tape, .int 0, .ref m_five, .int 0, .int 0, .int 0, .int 0, .int 0, .int 0, .int (-1), .ref m_fresh, .int 0, .int 0, .int 0, .int 0, .int 0, .int 0, .ref m_sums, .ref m_pairs, .ref m_goesWith, .ref m_said, .int 0, .int 0, .ref m_firstOrder, .int 0, .ref m_tiredBy, .int 0, .ref m_many, .ref m_width, .ref m_numbers, .ref m_moving])), (m_world, .inl (cA 1, 122, .inl (fun _ => 0)))]) [0, 1] rfl) (k_X12_isGorge l D cA h0 m_world m_images m_hasImage m_tape m_five m_fresh m_sums m_pairs m_goesWith m_said m_firstOrder m_tiredBy m_many m_width m_numbers m_moving) (tb_V tw_1664 tw_1666 tw_54 tw_114 tw_1667) hdX12_isGorge ⟨rfl, rfl, Nat.le_of_ble_eq_true rfl, Nat.le_of_ble_eq_true rfl⟩ ⟨Nat.le_of_ble_eq_true rfl, Nat.le_of_ble_eq_true rfl⟩ rfl rfl rfl hl.1 rfl (Nat.le_of_ble_eq_true rfl) dX12_deal_1 (fun r_1 hr_1 => ?_)
  obtain rfl : r_1 = 0 := hr_1
  refine lv_if_ne (tgt := 10) hx hb dX12_deal_4 (by decide) (fun c_2 => absurd (by decide) c_2) (fun c_2 => ?_)
  refine lv_bipush (v := (-2)) hx hb dX12_deal_7 (by decide) ?_
  exact W.iret (v := (-2)) hx hb hr (fun t ht hW => ⟨(-2), rfl, rfl, ht⟩) (fun _ h => by cases h) dX12_deal_9
set_option maxHeartbeats 4000000 in
set_option maxRecDepth 100000 in
theorem k_X12_even (l : Launch) (D : va_G) (cA : Nat → ClassId) (h0 : Nat) (m_world : Nat) (m_images : Nat) (m_hasImage : Nat) (m_tape : Nat) (m_five : Nat) (m_fresh : Nat) (m_sums : Nat) (m_pairs : Nat) (m_goesWith : Nat) (m_said : Nat) (m_firstOrder : Nat) (m_tiredBy : Nat) (m_many : Nat) (m_width : Nat) (m_numbers : Nat) (m_moving : Nat) : Met l yX12_even (Cond.code yX12_even cX12_even 3 (some .int) :: TB) (rmd 1 0 0) (PP D cA [(h0, .inr (12, [.int 0, .ref m_world, .ref m_images, .ref m_hasImage, .ref m_tape, .int 0, .ref m_five, .int 0, .int 0, .int 0, .int 0, .int 0, .int 0, .int (-1), .ref m_fresh, .int 0, .int 0, .int 0, .int 0, .int 0, .int 0, .ref m_sums, .ref m_pairs, .ref m_goesWith, .ref m_said, .int 0, .int 0, .ref m_firstOrder, .int 0, .ref m_tiredBy, .int 0, .ref m_many, .ref m_width, .ref m_numbers, .ref m_moving])), (m_world, .inl (cA 1, 122, .inl (fun _ => 0)))] [.ref h0]) (vp_Si (fun r => r = (-2))) 0 0 (fun _ => False) := by
  refine Met.ofW (cc := cX12_even) (maxL := 3) (ret := (some .int)) (by decide) rfl ?_
  intro p e s m args below meth c s₁ B hml hv
  obtain ⟨rfl, hP, hKN⟩ := hv
  have hx := B.exec
  have hb := B.bytes
  have hr := B.returns
  have hts : ∀ w ∈ TB, w.before _ s = true := fun w h => atoms_spec B.pre w (List.mem_cons_of_mem _ h)
  have hown : s.vm.findClass RX12 = some m.cls := findClass_of_methodNamed B.named
  have hlocks := B.notSynchronized
  have hl := lv_entry ([.ref h0]) (n := 3) (Nat.le_of_ble_eq_true rfl)
  rw [lg_entry_eq]
  generalize (lg_sl ([.ref h0]) ++ List.replicate (3 - (lg_sl ([.ref h0])).length) Slot.unset).toArray = ls at hl ⊢
  have hl : lv_has ls 3 [(0, .ref h0)] := hl
  refine lv_aload_n hx hb dX12_even_0 rfl (lv_at hl 0 rfl) ?_
  refine cpVi (rest := []) ⟨hx, hb, hml, hown, hts⟩ hKN (hP.sub (ws' := [(h0, .inr (12, [.int 0, .ref m_world, .ref m_images, .ref m_hasImage, .ref m_tape, .int 0, .ref m_five, .int 0, .int 0, .int 0, .int 0, .int 0, .int 0, .int (-1), .ref m_fresh, .int 0, .int 0, .int 0, .int 0, .int 0, .int 0, .ref m_sums, .ref m_pairs, .ref m_goesWith, .ref m_said, .int 0, .int 0, .ref m_firstOrder, .int 0, .ref m_tiredBy, .int 0, .ref m_many, .ref m_width, .ref m_numbers, .ref m_moving])), (m_world, .inl (cA 1, 122, .inl (fun _ => 0)))]) [0, 1] rfl) (k_X12_isGorge l D cA h0 m_world m_images m_hasImage m_tape m_five m_fresh m_sums m_pairs m_goesWith m_said m_firstOrder m_tiredBy m_many m_width m_numbers m_moving) (tb_V tw_1664 tw_1666 tw_54 tw_114 tw_1667) hdX12_isGorge ⟨rfl, rfl, Nat.le_of_ble_eq_true rfl, Nat.le_of_ble_eq_true rfl⟩ ⟨Nat.le_of_ble_eq_true rfl, Nat.le_of_ble_eq_true rfl⟩ rfl rfl rfl hl.1 rfl (Nat.le_of_ble_eq_true rfl) dX12_even_1 (fun r_1 hr_1 => ?_)
  obtain rfl : r_1 = 0 := hr_1
  refine lv_if_ne (tgt := 10) hx hb dX12_even_4 (by decide) (fun c_2 => absurd (by decide) c_2) (fun c_2 => ?_)
  refine lv_bipush (v := (-2)) hx hb dX12_even_7 (by decide) ?_
  exact W.iret (v := (-2)) hx hb hr (fun t ht hW => ⟨(-2), rfl, rfl, ht⟩) (fun _ h => by cases h) dX12_even_9
set_option maxHeartbeats 4000000 in
set_option maxRecDepth 100000 in
theorem k_X12_veto (l : Launch) (D : va_G) (cA : Nat → ClassId) (h0 : Nat) (m_world : Nat) (m_images : Nat) (m_hasImage : Nat) (m_tape : Nat) (m_five : Nat) (m_fresh : Nat) (m_sums : Nat) (m_pairs : Nat) (m_goesWith : Nat) (m_said : Nat) (m_firstOrder : Nat) (m_tiredBy : Nat) (m_many : Nat) (m_width : Nat) (m_numbers : Nat) (m_moving : Nat) (p0 : Int32) : Met l yX12_veto (Cond.code yX12_veto cX12_veto 4 (some .int) :: TB) (rmd 2 0 0) (PP D cA [(h0, .inr (12, [.int 0, .ref m_world, .ref m_images, .ref m_hasImage, .ref m_tape, .int 0, .ref m_five, .int 0, .int 0, .int 0, .int 0, .int 0, .int 0, .int (-1), .ref m_fresh, .int 0, .int 0, .int 0, .int 0, .int 0, .int 0, .ref m_sums, .ref m_pairs, .ref m_goesWith, .ref m_said, .int 0, .int 0, .ref m_firstOrder, .int 0, .ref m_tiredBy, .int 0, .ref m_many, .ref m_width, .ref m_numbers, .ref m_moving])), (m_world, .inl (cA 1, 122, .inl (fun _ => 0)))] [.ref h0, .int p0]) (vp_Si (fun r => r = (-2))) 0 0 (fun _ => False) := by
  refine Met.ofW (cc := cX12_veto) (maxL := 4) (ret := (some .int)) (by decide) rfl ?_
  intro p e s m args below meth c s₁ B hml hv
  obtain ⟨rfl, hP, hKN⟩ := hv
  have hx := B.exec
  have hb := B.bytes
  have hr := B.returns
  have hts : ∀ w ∈ TB, w.before _ s = true := fun w h => atoms_spec B.pre w (List.mem_cons_of_mem _ h)
  have hown : s.vm.findClass RX12 = some m.cls := findClass_of_methodNamed B.named
  have hlocks := B.notSynchronized
  have hl := lv_entry ([.ref h0, .int p0]) (n := 4) (Nat.le_of_ble_eq_true rfl)
  rw [lg_entry_eq]
  generalize (lg_sl ([.ref h0, .int p0]) ++ List.replicate (4 - (lg_sl ([.ref h0, .int p0])).length) Slot.unset).toArray = ls at hl ⊢
  have hl : lv_has ls 4 [(0, .ref h0), (1, .int p0)] := hl
  refine lv_aload_n hx hb dX12_veto_0 rfl (lv_at hl 0 rfl) ?_
  refine lv_iload_n hx hb dX12_veto_1 rfl (lv_at hl 1 rfl) ?_
  refine cpVi (rest := []) ⟨hx, hb, hml, hown, hts⟩ hKN (hP.sub (ws' := [(h0, .inr (12, [.int 0, .ref m_world, .ref m_images, .ref m_hasImage, .ref m_tape, .int 0, .ref m_five, .int 0, .int 0, .int 0, .int 0, .int 0, .int 0, .int (-1), .ref m_fresh, .int 0, .int 0, .int 0, .int 0, .int 0, .int 0, .ref m_sums, .ref m_pairs, .ref m_goesWith, .ref m_said, .int 0, .int 0, .ref m_firstOrder, .int 0, .ref m_tiredBy, .int 0, .ref m_many, .ref m_width, .ref m_numbers, .ref m_moving])), (m_world, .inl (cA 1, 122, .inl (fun _ => 0)))]) [0, 1] rfl) (k_X12_isSide l D cA h0 m_world m_images m_hasImage m_tape m_five m_fresh m_sums m_pairs m_goesWith m_said m_firstOrder m_tiredBy m_many m_width m_numbers m_moving p0) (tb_V tw_1660 tw_1662 tw_53 tw_114 tw_1663) hdX12_isSide ⟨rfl, rfl, Nat.le_of_ble_eq_true rfl, Nat.le_of_ble_eq_true rfl⟩ ⟨Nat.le_of_ble_eq_true rfl, Nat.le_of_ble_eq_true rfl⟩ rfl rfl rfl hl.1 rfl (Nat.le_of_ble_eq_true rfl) dX12_veto_2 (fun r_1 hr_1 => ?_)
  obtain rfl : r_1 = 0 := hr_1
  refine lv_if_ne (tgt := 11) hx hb dX12_veto_5 (by decide) (fun c_2 => absurd (by decide) c_2) (fun c_2 => ?_)
  refine lv_bipush (v := (-2)) hx hb dX12_veto_8 (by decide) ?_
  exact W.iret (v := (-2)) hx hb hr (fun t ht hW => ⟨(-2), rfl, rfl, ht⟩) (fun _ h => by cases h) dX12_veto_10
set_option maxHeartbeats 4000000 in
set_option maxRecDepth 100000 in
theorem k_X12_must (l : Launch) (D : va_G) (cA : Nat → ClassId) (h0 : Nat) (m_world : Nat) (m_images : Nat) (m_hasImage : Nat) (m_tape : Nat) (m_five : Nat) (m_fresh : Nat) (m_sums : Nat) (m_pairs : Nat) (m_goesWith : Nat) (m_said : Nat) (m_firstOrder : Nat) (m_tiredBy : Nat) (m_many : Nat) (m_width : Nat) (m_numbers : Nat) (m_moving : Nat) (p0 : Int32) : Met l yX12_must (Cond.code yX12_must cX12_must 2 (some .int) :: TB) (rmd 2 0 0) (PP D cA [(h0, .inr (12, [.int 0, .ref m_world, .ref m_images, .ref m_hasImage, .ref m_tape, .int 0, .ref m_five, .int 0, .int 0, .int 0, .int 0, .int 0, .int 0, .int (-1), .ref m_fresh, .int 0, .int 0, .int 0, .int 0, .int 0, .int 0, .ref m_sums, .ref m_pairs, .ref m_goesWith, .ref m_said, .int 0, .int 0, .ref m_firstOrder, .int 0, .ref m_tiredBy, .int 0, .ref m_many, .ref m_width, .ref m_numbers, .ref m_moving])), (m_world, .inl (cA 1, 122, .inl (fun _ => 0)))] [.ref h0, .int p0]) (vp_Si (fun r => r = (-2))) 0 0 (fun _ => False) := by
  refine Met.ofW (cc := cX12_must) (maxL := 2) (ret := (some .int)) (by decide) rfl ?_
  intro p e s m args below meth c s₁ B hml hv
  obtain ⟨rfl, hP, hKN⟩ := hv
  have hx := B.exec
  have hb := B.bytes
  have hr := B.returns
  have hts : ∀ w ∈ TB, w.before _ s = true := fun w h => atoms_spec B.pre w (List.mem_cons_of_mem _ h)
  have hown : s.vm.findClass RX12 = some m.cls := findClass_of_methodNamed B.named
  have hlocks := B.notSynchronized
  have hl := lv_entry ([.ref h0, .int p0]) (n := 2) (Nat.le_of_ble_eq_true rfl)
  rw [lg_entry_eq]
  generalize (lg_sl ([.ref h0, .int p0]) ++ List.replicate (2 - (lg_sl ([.ref h0, .int p0])).length) Slot.unset).toArray = ls at hl ⊢
  have hl : lv_has ls 2 [(0, .ref h0), (1, .int p0)] := hl
  refine lv_aload_n hx hb dX12_must_0 rfl (lv_at hl 0 rfl) ?_
  refine lv_iload_n hx hb dX12_must_1 rfl (lv_at hl 1 rfl) ?_
  refine cpVi (rest := []) ⟨hx, hb, hml, hown, hts⟩ hKN (hP.sub (ws' := [(h0, .inr (12, [.int 0, .ref m_world, .ref m_images, .ref m_hasImage, .ref m_tape, .int 0, .ref m_five, .int 0, .int 0, .int 0, .int 0, .int 0, .int 0, .int (-1), .ref m_fresh, .int 0, .int 0, .int 0, .int 0, .int 0, .int 0, .ref m_sums, .ref m_pairs, .ref m_goesWith, .ref m_said, .int 0, .int 0, .ref m_firstOrder, .int 0, .ref m_tiredBy, .int 0, .ref m_many, .ref m_width, .ref m_numbers, .ref m_moving])), (m_world, .inl (cA 1, 122, .inl (fun _ => 0)))]) [0, 1] rfl) (k_X12_isSide l D cA h0 m_world m_images m_hasImage m_tape m_five m_fresh m_sums m_pairs m_goesWith m_said m_firstOrder m_tiredBy m_many m_width m_numbers m_moving p0) (tb_V tw_1660 tw_1662 tw_53 tw_114 tw_1663) hdX12_isSide ⟨rfl, rfl, Nat.le_of_ble_eq_true rfl, Nat.le_of_ble_eq_true rfl⟩ ⟨Nat.le_of_ble_eq_true rfl, Nat.le_of_ble_eq_true rfl⟩ rfl rfl rfl hl.1 rfl (Nat.le_of_ble_eq_true rfl) dX12_must_2 (fun r_1 hr_1 => ?_)
  obtain rfl : r_1 = 0 := hr_1
  refine lv_if_eq (tgt := 19) hx hb dX12_must_5 (by decide) (fun c_2 => ?_) (fun c_2 => absurd (by decide) c_2)
  refine lv_bipush (v := (-2)) hx hb dX12_must_19 (by decide) ?_
  exact W.iret (v := (-2)) hx hb hr (fun t ht hW => ⟨(-2), rfl, rfl, ht⟩) (fun _ h => by cases h) dX12_must_21
set_option maxHeartbeats 4000000 in
set_option maxRecDepth 100000 in
theorem k_X12_musts (l : Launch) (D : va_G) (cA : Nat → ClassId) (h0 : Nat) (m_world : Nat) (m_images : Nat) (m_hasImage : Nat) (m_tape : Nat) (m_five : Nat) (m_fresh : Nat) (m_sums : Nat) (m_pairs : Nat) (m_goesWith : Nat) (m_said : Nat) (m_firstOrder : Nat) (m_tiredBy : Nat) (m_many : Nat) (m_width : Nat) (m_numbers : Nat) (m_moving : Nat) (p0 : Int32) : Met l yX12_musts (Cond.code yX12_musts cX12_musts 2 (some .int) :: TB) (rmd 2 0 0) (PP D cA [(h0, .inr (12, [.int 0, .ref m_world, .ref m_images, .ref m_hasImage, .ref m_tape, .int 0, .ref m_five, .int 0, .int 0, .int 0, .int 0, .int 0, .int 0, .int (-1), .ref m_fresh, .int 0, .int 0, .int 0, .int 0, .int 0, .int 0, .ref m_sums, .ref m_pairs, .ref m_goesWith, .ref m_said, .int 0, .int 0, .ref m_firstOrder, .int 0, .ref m_tiredBy, .int 0, .ref m_many, .ref m_width, .ref m_numbers, .ref m_moving])), (m_world, .inl (cA 1, 122, .inl (fun _ => 0)))] [.ref h0, .int p0]) (vp_Si (fun r => r = (-2))) 0 0 (fun _ => False) := by
  refine Met.ofW (cc := cX12_musts) (maxL := 2) (ret := (some .int)) (by decide) rfl ?_
  intro p e s m args below meth c s₁ B hml hv
  obtain ⟨rfl, hP, hKN⟩ := hv
  have hx := B.exec
  have hb := B.bytes
  have hr := B.returns
  have hts : ∀ w ∈ TB, w.before _ s = true := fun w h => atoms_spec B.pre w (List.mem_cons_of_mem _ h)
  have hown : s.vm.findClass RX12 = some m.cls := findClass_of_methodNamed B.named
  have hlocks := B.notSynchronized
  have hl := lv_entry ([.ref h0, .int p0]) (n := 2) (Nat.le_of_ble_eq_true rfl)
  rw [lg_entry_eq]
  generalize (lg_sl ([.ref h0, .int p0]) ++ List.replicate (2 - (lg_sl ([.ref h0, .int p0])).length) Slot.unset).toArray = ls at hl ⊢
  have hl : lv_has ls 2 [(0, .ref h0), (1, .int p0)] := hl
  refine lv_aload_n hx hb dX12_musts_0 rfl (lv_at hl 0 rfl) ?_
  refine lv_iload_n hx hb dX12_musts_1 rfl (lv_at hl 1 rfl) ?_
  refine cpVi (rest := []) ⟨hx, hb, hml, hown, hts⟩ hKN (hP.sub (ws' := [(h0, .inr (12, [.int 0, .ref m_world, .ref m_images, .ref m_hasImage, .ref m_tape, .int 0, .ref m_five, .int 0, .int 0, .int 0, .int 0, .int 0, .int 0, .int (-1), .ref m_fresh, .int 0, .int 0, .int 0, .int 0, .int 0, .int 0, .ref m_sums, .ref m_pairs, .ref m_goesWith, .ref m_said, .int 0, .int 0, .ref m_firstOrder, .int 0, .ref m_tiredBy, .int 0, .ref m_many, .ref m_width, .ref m_numbers, .ref m_moving])), (m_world, .inl (cA 1, 122, .inl (fun _ => 0)))]) [0, 1] rfl) (k_X12_isSide l D cA h0 m_world m_images m_hasImage m_tape m_five m_fresh m_sums m_pairs m_goesWith m_said m_firstOrder m_tiredBy m_many m_width m_numbers m_moving p0) (tb_V tw_1660 tw_1662 tw_53 tw_114 tw_1663) hdX12_isSide ⟨rfl, rfl, Nat.le_of_ble_eq_true rfl, Nat.le_of_ble_eq_true rfl⟩ ⟨Nat.le_of_ble_eq_true rfl, Nat.le_of_ble_eq_true rfl⟩ rfl rfl rfl hl.1 rfl (Nat.le_of_ble_eq_true rfl) dX12_musts_2 (fun r_1 hr_1 => ?_)
  obtain rfl : r_1 = 0 := hr_1
  refine lv_if_eq (tgt := 16) hx hb dX12_musts_5 (by decide) (fun c_2 => ?_) (fun c_2 => absurd (by decide) c_2)
  refine lv_bipush (v := (-2)) hx hb dX12_musts_16 (by decide) ?_
  exact W.iret (v := (-2)) hx hb hr (fun t ht hW => ⟨(-2), rfl, rfl, ht⟩) (fun _ h => by cases h) dX12_musts_18
set_option maxHeartbeats 4000000 in
set_option maxRecDepth 100000 in
theorem k_X12_bundles (l : Launch) (D : va_G) (cA : Nat → ClassId) (h0 : Nat) (m_world : Nat) (m_images : Nat) (m_hasImage : Nat) (m_tape : Nat) (m_five : Nat) (m_fresh : Nat) (m_sums : Nat) (m_pairs : Nat) (m_goesWith : Nat) (m_said : Nat) (m_firstOrder : Nat) (m_tiredBy : Nat) (m_many : Nat) (m_width : Nat) (m_numbers : Nat) (m_moving : Nat) : Met l yX12_bundles (Cond.code yX12_bundles cX12_bundles 1 (some .int) :: TB) (rmd 1 0 0) (PP D cA [(h0, .inr (12, [.int 0, .ref m_world, .ref m_images, .ref m_hasImage, .ref m_tape, .int 0, .ref m_five, .int 0, .int 0, .int 0, .int 0, .int 0, .int 0, .int (-1), .ref m_fresh, .int 0, .int 0, .int 0, .int 0, .int 0, .int 0, .ref m_sums, .ref m_pairs, .ref m_goesWith, .ref m_said, .int 0, .int 0, .ref m_firstOrder, .int 0, .ref m_tiredBy, .int 0, .ref m_many, .ref m_width, .ref m_numbers, .ref m_moving])), (m_world, .inl (cA 1, 122, .inl (fun _ => 0)))] [.ref h0]) (vp_Si (fun r => r = (-2))) 0 0 (fun _ => False) := by
  refine Met.ofW (cc := cX12_bundles) (maxL := 1) (ret := (some .int)) (by decide) rfl ?_
  intro p e s m args below meth c s₁ B hml hv
  obtain ⟨rfl, hP, hKN⟩ := hv
  have hx := B.exec
  have hb := B.bytes
  have hr := B.returns
  have hts : ∀ w ∈ TB, w.before _ s = true := fun w h => atoms_spec B.pre w (List.mem_cons_of_mem _ h)
  have hown : s.vm.findClass RX12 = some m.cls := findClass_of_methodNamed B.named
  have hlocks := B.notSynchronized
  have hl := lv_entry ([.ref h0]) (n := 1) (Nat.le_of_ble_eq_true rfl)
  rw [lg_entry_eq]
  generalize (lg_sl ([.ref h0]) ++ List.replicate (1 - (lg_sl ([.ref h0])).length) Slot.unset).toArray = ls at hl ⊢
  have hl : lv_has ls 1 [(0, .ref h0)] := hl
  refine lv_aload_n hx hb dX12_bundles_0 rfl (lv_at hl 0 rfl) ?_
  refine cpVi (rest := []) ⟨hx, hb, hml, hown, hts⟩ hKN (hP.sub (ws' := [(h0, .inr (12, [.int 0, .ref m_world, .ref m_images, .ref m_hasImage, .ref m_tape, .int 0, .ref m_five, .int 0, .int 0, .int 0, .int 0, .int 0, .int 0, .int (-1), .ref m_fresh, .int 0, .int 0, .int 0, .int 0, .int 0, .int 0, .ref m_sums, .ref m_pairs, .ref m_goesWith, .ref m_said, .int 0, .int 0, .ref m_firstOrder, .int 0, .ref m_tiredBy, .int 0, .ref m_many, .ref m_width, .ref m_numbers, .ref m_moving])), (m_world, .inl (cA 1, 122, .inl (fun _ => 0)))]) [0, 1] rfl) (k_X12_isGorge l D cA h0 m_world m_images m_hasImage m_tape m_five m_fresh m_sums m_pairs m_goesWith m_said m_firstOrder m_tiredBy m_many m_width m_numbers m_moving) (tb_V tw_1664 tw_1666 tw_54 tw_114 tw_1667) hdX12_isGorge ⟨rfl, rfl, Nat.le_of_ble_eq_true rfl, Nat.le_of_ble_eq_true rfl⟩ ⟨Nat.le_of_ble_eq_true rfl, Nat.le_of_ble_eq_true rfl⟩ rfl rfl rfl hl.1 rfl (Nat.le_of_ble_eq_true rfl) dX12_bundles_1 (fun r_1 hr_1 => ?_)
  obtain rfl : r_1 = 0 := hr_1
  refine lv_if_eq (tgt := 14) hx hb dX12_bundles_4 (by decide) (fun c_2 => ?_) (fun c_2 => absurd (by decide) c_2)
  refine lv_bipush (v := (-2)) hx hb dX12_bundles_14 (by decide) ?_
  exact W.iret (v := (-2)) hx hb hr (fun t ht hW => ⟨(-2), rfl, rfl, ht⟩) (fun _ h => by cases h) dX12_bundles_16
set_option maxHeartbeats 4000000 in
set_option maxRecDepth 100000 in
theorem k_X12_bundle (l : Launch) (D : va_G) (cA : Nat → ClassId) (h0 : Nat) (m_world : Nat) (m_images : Nat) (m_hasImage : Nat) (m_tape : Nat) (m_five : Nat) (m_fresh : Nat) (m_sums : Nat) (m_pairs : Nat) (m_goesWith : Nat) (m_said : Nat) (m_firstOrder : Nat) (m_tiredBy : Nat) (m_many : Nat) (m_width : Nat) (m_numbers : Nat) (m_moving : Nat) : Met l yX12_bundle (Cond.code yX12_bundle cX12_bundle 1 (some .int) :: TB) (rmd 1 0 0) (PP D cA [(h0, .inr (12, [.int 0, .ref m_world, .ref m_images, .ref m_hasImage, .ref m_tape, .int 0, .ref m_five, .int 0, .int 0, .int 0, .int 0, .int 0, .int 0, .int (-1), .ref m_fresh, .int 0, .int 0, .int 0, .int 0, .int 0, .int 0, .ref m_sums, .ref m_pairs, .ref m_goesWith, .ref m_said, .int 0, .int 0, .ref m_firstOrder, .int 0, .ref m_tiredBy, .int 0, .ref m_many, .ref m_width, .ref m_numbers, .ref m_moving])), (m_world, .inl (cA 1, 122, .inl (fun _ => 0)))] [.ref h0]) (vp_Si (fun r => r = (-2))) 0 0 (fun _ => False) := by
  refine Met.ofW (cc := cX12_bundle) (maxL := 1) (ret := (some .int)) (by decide) rfl ?_
  intro p e s m args below meth c s₁ B hml hv
  obtain ⟨rfl, hP, hKN⟩ := hv
  have hx := B.exec
  have hb := B.bytes
  have hr := B.returns
  have hts : ∀ w ∈ TB, w.before _ s = true := fun w h => atoms_spec B.pre w (List.mem_cons_of_mem _ h)
  have hown : s.vm.findClass RX12 = some m.cls := findClass_of_methodNamed B.named
  have hlocks := B.notSynchronized
  have hl := lv_entry ([.ref h0]) (n := 1) (Nat.le_of_ble_eq_true rfl)
  rw [lg_entry_eq]
  generalize (lg_sl ([.ref h0]) ++ List.replicate (1 - (lg_sl ([.ref h0])).length) Slot.unset).toArray = ls at hl ⊢
  have hl : lv_has ls 1 [(0, .ref h0)] := hl
  refine lv_aload_n hx hb dX12_bundle_0 rfl (lv_at hl 0 rfl) ?_
  refine cpVi (rest := []) ⟨hx, hb, hml, hown, hts⟩ hKN (hP.sub (ws' := [(h0, .inr (12, [.int 0, .ref m_world, .ref m_images, .ref m_hasImage, .ref m_tape, .int 0, .ref m_five, .int 0, .int 0, .int 0, .int 0, .int 0, .int 0, .int (-1), .ref m_fresh, .int 0, .int 0, .int 0, .int 0, .int 0, .int 0, .ref m_sums, .ref m_pairs, .ref m_goesWith, .ref m_said, .int 0, .int 0, .ref m_firstOrder, .int 0, .ref m_tiredBy, .int 0, .ref m_many, .ref m_width, .ref m_numbers, .ref m_moving])), (m_world, .inl (cA 1, 122, .inl (fun _ => 0)))]) [0, 1] rfl) (k_X12_isGorge l D cA h0 m_world m_images m_hasImage m_tape m_five m_fresh m_sums m_pairs m_goesWith m_said m_firstOrder m_tiredBy m_many m_width m_numbers m_moving) (tb_V tw_1664 tw_1666 tw_54 tw_114 tw_1667) hdX12_isGorge ⟨rfl, rfl, Nat.le_of_ble_eq_true rfl, Nat.le_of_ble_eq_true rfl⟩ ⟨Nat.le_of_ble_eq_true rfl, Nat.le_of_ble_eq_true rfl⟩ rfl rfl rfl hl.1 rfl (Nat.le_of_ble_eq_true rfl) dX12_bundle_1 (fun r_1 hr_1 => ?_)
  obtain rfl : r_1 = 0 := hr_1
  refine lv_if_ne (tgt := 10) hx hb dX12_bundle_4 (by decide) (fun c_2 => absurd (by decide) c_2) (fun c_2 => ?_)
  refine lv_bipush (v := (-2)) hx hb dX12_bundle_7 (by decide) ?_
  exact W.iret (v := (-2)) hx hb hr (fun t ht hW => ⟨(-2), rfl, rfl, ht⟩) (fun _ h => by cases h) dX12_bundle_9
set_option maxHeartbeats 4000000 in
set_option maxRecDepth 100000 in
theorem k_X12_firm (l : Launch) (D : va_G) (cA : Nat → ClassId) (h0 : Nat) (m_world : Nat) (m_images : Nat) (m_hasImage : Nat) (m_tape : Nat) (m_five : Nat) (m_fresh : Nat) (m_sums : Nat) (m_pairs : Nat) (m_goesWith : Nat) (m_said : Nat) (m_firstOrder : Nat) (m_tiredBy : Nat) (m_many : Nat) (m_width : Nat) (m_numbers : Nat) (m_moving : Nat) : Met l yX12_firm (Cond.code yX12_firm cX12_firm 3 (some .int) :: TB) (rmd 1 0 0) (PP D cA [(h0, .inr (12, [.int 0, .ref m_world, .ref m_images, .ref m_hasImage, .ref m_tape, .int 0, .ref m_five, .int 0, .int 0, .int 0, .int 0, .int 0, .int 0, .int (-1), .ref m_fresh, .int 0, .int 0, .int 0, .int 0, .int 0, .int 0, .ref m_sums, .ref m_pairs, .ref m_goesWith, .ref m_said, .int 0, .int 0, .ref m_firstOrder, .int 0, .ref m_tiredBy, .int 0, .ref m_many, .ref m_width, .ref m_numbers, .ref m_moving])), (m_world, .inl (cA 1, 122, .inl (fun _ => 0)))] [.ref h0]) (vp_Si (fun r => r = (-2))) 0 0 (fun _ => False) := by
  refine Met.ofW (cc := cX12_firm) (maxL := 3) (ret := (some .int)) (by decide) rfl ?_
  intro p e s m args below meth c s₁ B hml hv
  obtain ⟨rfl, hP, hKN⟩ := hv
  have hx := B.exec
  have hb := B.bytes
  have hr := B.returns
  have hts : ∀ w ∈ TB, w.before _ s = true := fun w h => atoms_spec B.pre w (List.mem_cons_of_mem _ h)
  have hown : s.vm.findClass RX12 = some m.cls := findClass_of_methodNamed B.named
  have hlocks := B.notSynchronized
  have hl := lv_entry ([.ref h0]) (n := 3) (Nat.le_of_ble_eq_true rfl)
  rw [lg_entry_eq]
  generalize (lg_sl ([.ref h0]) ++ List.replicate (3 - (lg_sl ([.ref h0])).length) Slot.unset).toArray = ls at hl ⊢
  have hl : lv_has ls 3 [(0, .ref h0)] := hl
  refine lv_aload_n hx hb dX12_firm_0 rfl (lv_at hl 0 rfl) ?_
  refine cpVi (rest := []) ⟨hx, hb, hml, hown, hts⟩ hKN (hP.sub (ws' := [(h0, .inr (12, [.int 0, .ref m_world, .ref m_images, .ref m_hasImage, .ref m_tape, .int 0, .ref m_five, .int 0, .int 0, .int 0, .int 0, .int 0, .int 0, .int (-1), .ref m_fresh, .int 0, .int 0, .int 0, .int 0, .int 0, .int 0, .ref m_sums, .ref m_pairs, .ref m_goesWith, .ref m_said, .int 0, .int 0, .ref m_firstOrder, .int 0, .ref m_tiredBy, .int 0, .ref m_many, .ref m_width, .ref m_numbers, .ref m_moving])), (m_world, .inl (cA 1, 122, .inl (fun _ => 0)))]) [0, 1] rfl) (k_X12_isGorge l D cA h0 m_world m_images m_hasImage m_tape m_five m_fresh m_sums m_pairs m_goesWith m_said m_firstOrder m_tiredBy m_many m_width m_numbers m_moving) (tb_V tw_1664 tw_1666 tw_54 tw_114 tw_1667) hdX12_isGorge ⟨rfl, rfl, Nat.le_of_ble_eq_true rfl, Nat.le_of_ble_eq_true rfl⟩ ⟨Nat.le_of_ble_eq_true rfl, Nat.le_of_ble_eq_true rfl⟩ rfl rfl rfl hl.1 rfl (Nat.le_of_ble_eq_true rfl) dX12_firm_1 (fun r_1 hr_1 => ?_)
  obtain rfl : r_1 = 0 := hr_1
  refine lv_if_ne (tgt := 10) hx hb dX12_firm_4 (by decide) (fun c_2 => absurd (by decide) c_2) (fun c_2 => ?_)
  refine lv_bipush (v := (-2)) hx hb dX12_firm_7 (by decide) ?_
  exact W.iret (v := (-2)) hx hb hr (fun t ht hW => ⟨(-2), rfl, rfl, ht⟩) (fun _ h => by cases h) dX12_firm_9
set_option maxHeartbeats 4000000 in
set_option maxRecDepth 100000 in
theorem k_X12_rests (l : Launch) (D : va_G) (cA : Nat → ClassId) (h0 : Nat) (m_world : Nat) (m_images : Nat) (m_hasImage : Nat) (m_tape : Nat) (m_five : Nat) (m_fresh : Nat) (m_sums : Nat) (m_pairs : Nat) (m_goesWith : Nat) (m_said : Nat) (m_firstOrder : Nat) (m_tiredBy : Nat) (m_many : Nat) (m_width : Nat) (m_numbers : Nat) (m_moving : Nat) (p0 : Int32) (p1 : Int32) : Met l yX12_rests (Cond.code yX12_rests cX12_rests 8 (some .int) :: TB) (rmd 2 0 0) (PP D cA [(h0, .inr (12, [.int 0, .ref m_world, .ref m_images, .ref m_hasImage, .ref m_tape, .int 0, .ref m_five, .int 0, .int 0, .int 0, .int 0, .int 0, .int 0, .int (-1), .ref m_fresh, .int 0, .int 0, .int 0, .int 0, .int 0, .int 0, .ref m_sums, .ref m_pairs, .ref m_goesWith, .ref m_said, .int 0, .int 0, .ref m_firstOrder, .int 0, .ref m_tiredBy, .int 0, .ref m_many, .ref m_width, .ref m_numbers, .ref m_moving])), (m_world, .inl (cA 1, 122, .inl (fun _ => 0)))] [.ref h0, .int p0, .int p1]) (vp_Si (fun r => r = (-2))) 0 0 (fun _ => False) := by
  refine Met.ofW (cc := cX12_rests) (maxL := 8) (ret := (some .int)) (by decide) rfl ?_
  intro p e s m args below meth c s₁ B hml hv
  obtain ⟨rfl, hP, hKN⟩ := hv
  have hx := B.exec
  have hb := B.bytes
  have hr := B.returns
  have hts : ∀ w ∈ TB, w.before _ s = true := fun w h => atoms_spec B.pre w (List.mem_cons_of_mem _ h)
  have hown : s.vm.findClass RX12 = some m.cls := findClass_of_methodNamed B.named
  have hlocks := B.notSynchronized
  have hl := lv_entry ([.ref h0, .int p0, .int p1]) (n := 8) (Nat.le_of_ble_eq_true rfl)
  rw [lg_entry_eq]
  generalize (lg_sl ([.ref h0, .int p0, .int p1]) ++ List.replicate (8 - (lg_sl ([.ref h0, .int p0, .int p1])).length) Slot.unset).toArray = ls at hl ⊢
  have hl : lv_has ls 8 [(0, .ref h0), (1, .int p0), (2, .int p1)] := hl
  refine lv_aload_n hx hb dX12_rests_0 rfl (lv_at hl 0 rfl) ?_
  refine lv_iload_n hx hb dX12_rests_1 rfl (lv_at hl 1 rfl) ?_
  obtain ⟨x_1, ex_1⟩ : ∃ y, p0.toInt64 = y := ⟨_, rfl⟩
  refine lv_i2l (v := x_1) hx hb dX12_rests_2 ex_1 ?_
  have k_2 := tt_i2l ex_1
  refine cpVi (rest := []) ⟨hx, hb, hml, hown, hts⟩ hKN (hP.sub (ws' := [(h0, .inr (12, [.int 0, .ref m_world, .ref m_images, .ref m_hasImage, .ref m_tape, .int 0, .ref m_five, .int 0, .int 0, .int 0, .int 0, .int 0, .int 0, .int (-1), .ref m_fresh, .int 0, .int 0, .int 0, .int 0, .int 0, .int 0, .ref m_sums, .ref m_pairs, .ref m_goesWith, .ref m_said, .int 0, .int 0, .ref m_firstOrder, .int 0, .ref m_tiredBy, .int 0, .ref m_many, .ref m_width, .ref m_numbers, .ref m_moving])), (m_world, .inl (cA 1, 122, .inl (fun _ => 0)))]) [0, 1] rfl) (k_X12_isClause l D cA h0 m_world m_images m_hasImage m_tape m_five m_fresh m_sums m_pairs m_goesWith m_said m_firstOrder m_tiredBy m_many m_width m_numbers m_moving x_1) (tb_V tw_1648 tw_1650 tw_51 tw_114 tw_1651) hdX12_isClause ⟨rfl, rfl, Nat.le_of_ble_eq_true rfl, Nat.le_of_ble_eq_true rfl⟩ ⟨Nat.le_of_ble_eq_true rfl, Nat.le_of_ble_eq_true rfl⟩ rfl rfl rfl hl.1 rfl (Nat.le_of_ble_eq_true rfl) dX12_rests_3 (fun r_3 hr_3 => ?_)
  obtain rfl : r_3 = 0 := hr_3
  refine lv_if_eq (tgt := 21) hx hb dX12_rests_6 (by decide) (fun c_4 => ?_) (fun c_4 => absurd (by decide) c_4)
  refine lv_bipush (v := (-2)) hx hb dX12_rests_21 (by decide) ?_
  exact W.iret (v := (-2)) hx hb hr (fun t ht hW => ⟨(-2), rfl, rfl, ht⟩) (fun _ h => by cases h) dX12_rests_23
set_option maxHeartbeats 4000000 in
set_option maxRecDepth 100000 in
theorem k_X12_stands (l : Launch) (D : va_G) (cA : Nat → ClassId) (h0 : Nat) (m_world : Nat) (m_images : Nat) (m_hasImage : Nat) (m_tape : Nat) (m_five : Nat) (m_fresh : Nat) (m_sums : Nat) (m_pairs : Nat) (m_goesWith : Nat) (m_said : Nat) (m_firstOrder : Nat) (m_tiredBy : Nat) (m_many : Nat) (m_width : Nat) (m_numbers : Nat) (m_moving : Nat) : Met l yX12_stands (Cond.code yX12_stands cX12_stands 3 (some .int) :: TB) (rmd 1 0 0) (PP D cA [(h0, .inr (12, [.int 0, .ref m_world, .ref m_images, .ref m_hasImage, .ref m_tape, .int 0, .ref m_five, .int 0, .int 0, .int 0, .int 0, .int 0, .int 0, .int (-1), .ref m_fresh, .int 0, .int 0, .int 0, .int 0, .int 0, .int 0, .ref m_sums, .ref m_pairs, .ref m_goesWith, .ref m_said, .int 0, .int 0, .ref m_firstOrder, .int 0, .ref m_tiredBy, .int 0, .ref m_many, .ref m_width, .ref m_numbers, .ref m_moving])), (m_world, .inl (cA 1, 122, .inl (fun _ => 0)))] [.ref h0]) (vp_Si (fun r => r = (-2))) 0 0 (fun _ => False) := by
  refine Met.ofW (cc := cX12_stands) (maxL := 3) (ret := (some .int)) (by decide) rfl ?_
  intro p e s m args below meth c s₁ B hml hv
  obtain ⟨rfl, hP, hKN⟩ := hv
  have hx := B.exec
  have hb := B.bytes
  have hr := B.returns
  have hts : ∀ w ∈ TB, w.before _ s = true := fun w h => atoms_spec B.pre w (List.mem_cons_of_mem _ h)
  have hown : s.vm.findClass RX12 = some m.cls := findClass_of_methodNamed B.named
  have hlocks := B.notSynchronized
  have hl := lv_entry ([.ref h0]) (n := 3) (Nat.le_of_ble_eq_true rfl)
  rw [lg_entry_eq]
  generalize (lg_sl ([.ref h0]) ++ List.replicate (3 - (lg_sl ([.ref h0])).length) Slot.unset).toArray = ls at hl ⊢
  have hl : lv_has ls 3 [(0, .ref h0)] := hl
  refine lv_aload_n hx hb dX12_stands_0 rfl (lv_at hl 0 rfl) ?_
  refine cpVi (rest := []) ⟨hx, hb, hml, hown, hts⟩ hKN (hP.sub (ws' := [(h0, .inr (12, [.int 0, .ref m_world, .ref m_images, .ref m_hasImage, .ref m_tape, .int 0, .ref m_five, .int 0, .int 0, .int 0, .int 0, .int 0, .int 0, .int (-1), .ref m_fresh, .int 0, .int 0, .int 0, .int 0, .int 0, .int 0, .ref m_sums, .ref m_pairs, .ref m_goesWith, .ref m_said, .int 0, .int 0, .ref m_firstOrder, .int 0, .ref m_tiredBy, .int 0, .ref m_many, .ref m_width, .ref m_numbers, .ref m_moving])), (m_world, .inl (cA 1, 122, .inl (fun _ => 0)))]) [0, 1] rfl) (k_X12_isGorge l D cA h0 m_world m_images m_hasImage m_tape m_five m_fresh m_sums m_pairs m_goesWith m_said m_firstOrder m_tiredBy m_many m_width m_numbers m_moving) (tb_V tw_1664 tw_1666 tw_54 tw_114 tw_1667) hdX12_isGorge ⟨rfl, rfl, Nat.le_of_ble_eq_true rfl, Nat.le_of_ble_eq_true rfl⟩ ⟨Nat.le_of_ble_eq_true rfl, Nat.le_of_ble_eq_true rfl⟩ rfl rfl rfl hl.1 rfl (Nat.le_of_ble_eq_true rfl) dX12_stands_1 (fun r_1 hr_1 => ?_)
  obtain rfl : r_1 = 0 := hr_1
  refine lv_if_ne (tgt := 10) hx hb dX12_stands_4 (by decide) (fun c_2 => absurd (by decide) c_2) (fun c_2 => ?_)
  refine lv_bipush (v := (-2)) hx hb dX12_stands_7 (by decide) ?_
  exact W.iret (v := (-2)) hx hb hr (fun t ht hW => ⟨(-2), rfl, rfl, ht⟩) (fun _ h => by cases h) dX12_stands_9
set_option maxHeartbeats 4000000 in
set_option maxRecDepth 100000 in
theorem k_X12_fits (l : Launch) (D : va_G) (cA : Nat → ClassId) (h0 : Nat) (m_world : Nat) (m_images : Nat) (m_hasImage : Nat) (m_tape : Nat) (m_five : Nat) (m_fresh : Nat) (m_sums : Nat) (m_pairs : Nat) (m_goesWith : Nat) (m_said : Nat) (m_firstOrder : Nat) (m_tiredBy : Nat) (m_many : Nat) (m_width : Nat) (m_numbers : Nat) (m_moving : Nat) (p0 : Int32) : Met l yX12_fits (Cond.code yX12_fits cX12_fits 3 (some .int) :: TB) (rmd 3 0 0) (PP D cA [(h0, .inr (12, [.int 0, .ref m_world, .ref m_images, .ref m_hasImage, .ref m_tape, .int 0, .ref m_five, .int 0, .int 0, .int 0, .int 0, .int 0, .int 0, .int (-1), .ref m_fresh, .int 0, .int 0, .int 0, .int 0, .int 0, .int 0, .ref m_sums, .ref m_pairs, .ref m_goesWith, .ref m_said, .int 0, .int 0, .ref m_firstOrder, .int 0, .ref m_tiredBy, .int 0, .ref m_many, .ref m_width, .ref m_numbers, .ref m_moving])), (m_world, .inl (cA 1, 122, .inl (fun _ => 0)))] [.ref h0, .int p0]) (vp_Si (fun r => r = (-2))) 0 0 (fun _ => False) := by
  refine Met.ofW (cc := cX12_fits) (maxL := 3) (ret := (some .int)) (by decide) rfl ?_
  intro p e s m args below meth c s₁ B hml hv
  obtain ⟨rfl, hP, hKN⟩ := hv
  have hx := B.exec
  have hb := B.bytes
  have hr := B.returns
  have hts : ∀ w ∈ TB, w.before _ s = true := fun w h => atoms_spec B.pre w (List.mem_cons_of_mem _ h)
  have hown : s.vm.findClass RX12 = some m.cls := findClass_of_methodNamed B.named
  have hlocks := B.notSynchronized
  have hl := lv_entry ([.ref h0, .int p0]) (n := 3) (Nat.le_of_ble_eq_true rfl)
  rw [lg_entry_eq]
  generalize (lg_sl ([.ref h0, .int p0]) ++ List.replicate (3 - (lg_sl ([.ref h0, .int p0])).length) Slot.unset).toArray = ls at hl ⊢
  have hl : lv_has ls 3 [(0, .ref h0), (1, .int p0)] := hl
  refine lv_aload_n hx hb dX12_fits_0 rfl (lv_at hl 0 rfl) ?_
  refine lv_iload_n hx hb dX12_fits_1 rfl (lv_at hl 1 rfl) ?_
  refine lv_iconst (v := 1) hx hb dX12_fits_2 (by decide) ?_
  refine cpVi (rest := []) ⟨hx, hb, hml, hown, hts⟩ hKN (hP.sub (ws' := [(h0, .inr (12, [.int 0, .ref m_world, .ref m_images, .ref m_hasImage, .ref m_tape, .int 0, .ref m_five, .int 0, .int 0, .int 0, .int 0, .int 0, .int 0, .int (-1), .ref m_fresh, .int 0, .int 0, .int 0, .int 0, .int 0, .int 0, .ref m_sums, .ref m_pairs, .ref m_goesWith, .ref m_said, .int 0, .int 0, .ref m_firstOrder, .int 0, .ref m_tiredBy, .int 0, .ref m_many, .ref m_width, .ref m_numbers, .ref m_moving])), (m_world, .inl (cA 1, 122, .inl (fun _ => 0)))]) [0, 1] rfl) (k_X12_layTired l D cA h0 m_world m_images m_hasImage m_tape m_five m_fresh m_sums m_pairs m_goesWith m_said m_firstOrder m_tiredBy m_many m_width m_numbers m_moving p0 1) (tb_V tw_2015 tw_2017 tw_93 tw_114 tw_2018) hdX12_layTired ⟨rfl, rfl, Nat.le_of_ble_eq_true rfl, Nat.le_of_ble_eq_true rfl⟩ ⟨Nat.le_of_ble_eq_true rfl, Nat.le_of_ble_eq_true rfl⟩ rfl rfl rfl hl.1 rfl (Nat.le_of_ble_eq_true rfl) dX12_fits_3 (fun r_1 hr_1 => ?_)
  obtain rfl : r_1 = (-2) := hr_1
  refine lv_istore_n (lv' := [(2, .int (-2)), (0, .ref h0), (1, .int p0)]) hx hb dX12_fits_6 rfl hl (by decide) rfl (fun ls hl => ?_)
  refine lv_iload_n hx hb dX12_fits_7 rfl (lv_at hl 0 rfl) ?_
  refine lv_if_ge (tgt := 15) hx hb dX12_fits_8 (by decide) (fun c_2 => absurd c_2 (by decide)) (fun c_2 => ?_)
  refine lv_iload_n hx hb dX12_fits_11 rfl (lv_at hl 0 rfl) ?_
  refine lv_goto (tgt := 19) hx hb dX12_fits_12 (by decide) ?_
  exact W.iret (v := (-2)) hx hb hr (fun t ht hW => ⟨(-2), rfl, rfl, ht⟩) (fun _ h => by cases h) dX12_fits_19
set_option maxHeartbeats 4000000 in
set_option maxRecDepth 100000 in
theorem k_X12_tired (l : Launch) (D : va_G) (cA : Nat → ClassId) (h0 : Nat) (m_world : Nat) (m_images : Nat) (m_hasImage : Nat) (m_tape : Nat) (m_five : Nat) (m_fresh : Nat) (m_sums : Nat) (m_pairs : Nat) (m_goesWith : Nat) (m_said : Nat) (m_firstOrder : Nat) (m_tiredBy : Nat) (m_many : Nat) (m_width : Nat) (m_numbers : Nat) (m_moving : Nat) (p0 : Int32) : Met l yX12_tired (Cond.code yX12_tired cX12_tired 5 (some .int) :: TB) (rmd 3 0 0) (PP D cA [(h0, .inr (12, [.int 0, .ref m_world, .ref m_images, .ref m_hasImage, .ref m_tape, .int 0, .ref m_five, .int 0, .int 0, .int 0, .int 0, .int 0, .int 0, .int (-1), .ref m_fresh, .int 0, .int 0, .int 0, .int 0, .int 0, .int 0, .ref m_sums, .ref m_pairs, .ref m_goesWith, .ref m_said, .int 0, .int 0, .ref m_firstOrder, .int 0, .ref m_tiredBy, .int 0, .ref m_many, .ref m_width, .ref m_numbers, .ref m_moving])), (m_world, .inl (cA 1, 122, .inl (fun _ => 0)))] [.ref h0, .int p0]) (vp_Si (fun r => r = (-2))) 0 0 (fun _ => False) := by
  refine Met.ofW (cc := cX12_tired) (maxL := 5) (ret := (some .int)) (by decide) rfl ?_
  intro p e s m args below meth c s₁ B hml hv
  obtain ⟨rfl, hP, hKN⟩ := hv
  have hx := B.exec
  have hb := B.bytes
  have hr := B.returns
  have hts : ∀ w ∈ TB, w.before _ s = true := fun w h => atoms_spec B.pre w (List.mem_cons_of_mem _ h)
  have hown : s.vm.findClass RX12 = some m.cls := findClass_of_methodNamed B.named
  have hlocks := B.notSynchronized
  have hl := lv_entry ([.ref h0, .int p0]) (n := 5) (Nat.le_of_ble_eq_true rfl)
  rw [lg_entry_eq]
  generalize (lg_sl ([.ref h0, .int p0]) ++ List.replicate (5 - (lg_sl ([.ref h0, .int p0])).length) Slot.unset).toArray = ls at hl ⊢
  have hl : lv_has ls 5 [(0, .ref h0), (1, .int p0)] := hl
  refine lv_aload_n hx hb dX12_tired_0 rfl (lv_at hl 0 rfl) ?_
  refine lv_iload_n hx hb dX12_tired_1 rfl (lv_at hl 1 rfl) ?_
  refine lv_iconst (v := 1) hx hb dX12_tired_2 (by decide) ?_
  refine cpVi (rest := []) ⟨hx, hb, hml, hown, hts⟩ hKN (hP.sub (ws' := [(h0, .inr (12, [.int 0, .ref m_world, .ref m_images, .ref m_hasImage, .ref m_tape, .int 0, .ref m_five, .int 0, .int 0, .int 0, .int 0, .int 0, .int 0, .int (-1), .ref m_fresh, .int 0, .int 0, .int 0, .int 0, .int 0, .int 0, .ref m_sums, .ref m_pairs, .ref m_goesWith, .ref m_said, .int 0, .int 0, .ref m_firstOrder, .int 0, .ref m_tiredBy, .int 0, .ref m_many, .ref m_width, .ref m_numbers, .ref m_moving])), (m_world, .inl (cA 1, 122, .inl (fun _ => 0)))]) [0, 1] rfl) (k_X12_layTired l D cA h0 m_world m_images m_hasImage m_tape m_five m_fresh m_sums m_pairs m_goesWith m_said m_firstOrder m_tiredBy m_many m_width m_numbers m_moving p0 1) (tb_V tw_2015 tw_2017 tw_93 tw_114 tw_2018) hdX12_layTired ⟨rfl, rfl, Nat.le_of_ble_eq_true rfl, Nat.le_of_ble_eq_true rfl⟩ ⟨Nat.le_of_ble_eq_true rfl, Nat.le_of_ble_eq_true rfl⟩ rfl rfl rfl hl.1 rfl (Nat.le_of_ble_eq_true rfl) dX12_tired_3 (fun r_1 hr_1 => ?_)
  obtain rfl : r_1 = (-2) := hr_1
  refine lv_istore_n (lv' := [(2, .int (-2)), (0, .ref h0), (1, .int p0)]) hx hb dX12_tired_6 rfl hl (by decide) rfl (fun ls hl => ?_)
  refine lv_iload_n hx hb dX12_tired_7 rfl (lv_at hl 0 rfl) ?_
  refine lv_if_ge (tgt := 13) hx hb dX12_tired_8 (by decide) (fun c_2 => absurd c_2 (by decide)) (fun c_2 => ?_)
  refine lv_iload_n hx hb dX12_tired_11 rfl (lv_at hl 0 rfl) ?_
  exact W.iret (v := (-2)) hx hb hr (fun t ht hW => ⟨(-2), rfl, rfl, ht⟩) (fun _ h => by cases h) dX12_tired_12
set_option maxHeartbeats 4000000 in
set_option maxRecDepth 100000 in
theorem k_X12_by (l : Launch) (D : va_G) (cA : Nat → ClassId) (h0 : Nat) (m_world : Nat) (m_images : Nat) (m_hasImage : Nat) (m_tape : Nat) (m_five : Nat) (m_fresh : Nat) (m_sums : Nat) (m_pairs : Nat) (m_goesWith : Nat) (m_said : Nat) (m_firstOrder : Nat) (m_tiredBy : Nat) (m_many : Nat) (m_width : Nat) (m_numbers : Nat) (m_moving : Nat) (p0 : Int32) (p1 : Int32) : Met l yX12_by (Cond.code yX12_by cX12_by 5 (some .int) :: TB) (rmd 3 0 0) (PP D cA [(h0, .inr (12, [.int 0, .ref m_world, .ref m_images, .ref m_hasImage, .ref m_tape, .int 0, .ref m_five, .int 0, .int 0, .int 0, .int 0, .int 0, .int 0, .int (-1), .ref m_fresh, .int 0, .int 0, .int 0, .int 0, .int 0, .int 0, .ref m_sums, .ref m_pairs, .ref m_goesWith, .ref m_said, .int 0, .int 0, .ref m_firstOrder, .int 0, .ref m_tiredBy, .int 0, .ref m_many, .ref m_width, .ref m_numbers, .ref m_moving])), (m_world, .inl (cA 1, 122, .inl (fun _ => 0)))] [.ref h0, .int p0, .int p1]) (vp_Si (fun r => r = (-2))) 0 0 (fun _ => False) := by
  refine Met.ofW (cc := cX12_by) (maxL := 5) (ret := (some .int)) (by decide) rfl ?_
  intro p e s m args below meth c s₁ B hml hv
  obtain ⟨rfl, hP, hKN⟩ := hv
  have hx := B.exec
  have hb := B.bytes
  have hr := B.returns
  have hts : ∀ w ∈ TB, w.before _ s = true := fun w h => atoms_spec B.pre w (List.mem_cons_of_mem _ h)
  have hown : s.vm.findClass RX12 = some m.cls := findClass_of_methodNamed B.named
  have hlocks := B.notSynchronized
  have hl := lv_entry ([.ref h0, .int p0, .int p1]) (n := 5) (Nat.le_of_ble_eq_true rfl)
  rw [lg_entry_eq]
  generalize (lg_sl ([.ref h0, .int p0, .int p1]) ++ List.replicate (5 - (lg_sl ([.ref h0, .int p0, .int p1])).length) Slot.unset).toArray = ls at hl ⊢
  have hl : lv_has ls 5 [(0, .ref h0), (1, .int p0), (2, .int p1)] := hl
  refine lv_aload_n hx hb dX12_by_0 rfl (lv_at hl 0 rfl) ?_
  refine lv_iload_n hx hb dX12_by_1 rfl (lv_at hl 1 rfl) ?_
  refine lv_aload_n hx hb dX12_by_2 rfl (lv_at hl 0 rfl) ?_
  refine lv_iload_n hx hb dX12_by_3 rfl (lv_at hl 2 rfl) ?_
  obtain ⟨x_1, ex_1⟩ : ∃ y, p1.toInt64 = y := ⟨_, rfl⟩
  refine lv_i2l (v := x_1) hx hb dX12_by_4 ex_1 ?_
  have k_2 := tt_i2l ex_1
  refine cpVi (rest := [.int p0, .ref h0]) ⟨hx, hb, hml, hown, hts⟩ hKN (hP.sub (ws' := [(h0, .inr (12, [.int 0, .ref m_world, .ref m_images, .ref m_hasImage, .ref m_tape, .int 0, .ref m_five, .int 0, .int 0, .int 0, .int 0, .int 0, .int 0, .int (-1), .ref m_fresh, .int 0, .int 0, .int 0, .int 0, .int 0, .int 0, .ref m_sums, .ref m_pairs, .ref m_goesWith, .ref m_said, .int 0, .int 0, .ref m_firstOrder, .int 0, .ref m_tiredBy, .int 0, .ref m_many, .ref m_width, .ref m_numbers, .ref m_moving])), (m_world, .inl (cA 1, 122, .inl (fun _ => 0)))]) [0, 1] rfl) (k_X12_isMan l D cA h0 m_world m_images m_hasImage m_tape m_five m_fresh m_sums m_pairs m_goesWith m_said m_firstOrder m_tiredBy m_many m_width m_numbers m_moving x_1) (tb_V tw_1636 tw_1638 tw_49 tw_114 tw_1639) hdX12_isMan ⟨rfl, rfl, Nat.le_of_ble_eq_true rfl, Nat.le_of_ble_eq_true rfl⟩ ⟨Nat.le_of_ble_eq_true rfl, Nat.le_of_ble_eq_true rfl⟩ rfl rfl rfl hl.1 rfl (Nat.le_of_ble_eq_true rfl) dX12_by_5 (fun r_3 hr_3 => ?_)
  obtain rfl : r_3 = 0 := hr_3
  refine cpVi (rest := []) ⟨hx, hb, hml, hown, hts⟩ hKN (hP.sub (ws' := [(h0, .inr (12, [.int 0, .ref m_world, .ref m_images, .ref m_hasImage, .ref m_tape, .int 0, .ref m_five, .int 0, .int 0, .int 0, .int 0, .int 0, .int 0, .int (-1), .ref m_fresh, .int 0, .int 0, .int 0, .int 0, .int 0, .int 0, .ref m_sums, .ref m_pairs, .ref m_goesWith, .ref m_said, .int 0, .int 0, .ref m_firstOrder, .int 0, .ref m_tiredBy, .int 0, .ref m_many, .ref m_width, .ref m_numbers, .ref m_moving])), (m_world, .inl (cA 1, 122, .inl (fun _ => 0)))]) [0, 1] rfl) (k_X12_layTired l D cA h0 m_world m_images m_hasImage m_tape m_five m_fresh m_sums m_pairs m_goesWith m_said m_firstOrder m_tiredBy m_many m_width m_numbers m_moving p0 0) (tb_V tw_2015 tw_2017 tw_93 tw_114 tw_2018) hdX12_layTired ⟨rfl, rfl, Nat.le_of_ble_eq_true rfl, Nat.le_of_ble_eq_true rfl⟩ ⟨Nat.le_of_ble_eq_true rfl, Nat.le_of_ble_eq_true rfl⟩ rfl rfl rfl hl.1 rfl (Nat.le_of_ble_eq_true rfl) dX12_by_8 (fun r_4 hr_4 => ?_)
  obtain rfl : r_4 = (-2) := hr_4
  refine lv_istore_n (lv' := [(3, .int (-2)), (0, .ref h0), (1, .int p0), (2, .int p1)]) hx hb dX12_by_11 rfl hl (by decide) rfl (fun ls hl => ?_)
  refine lv_iload_n hx hb dX12_by_12 rfl (lv_at hl 0 rfl) ?_
  refine lv_if_ge (tgt := 18) hx hb dX12_by_13 (by decide) (fun c_5 => absurd c_5 (by decide)) (fun c_5 => ?_)
  refine lv_iload_n hx hb dX12_by_16 rfl (lv_at hl 0 rfl) ?_
  exact W.iret (v := (-2)) hx hb hr (fun t ht hW => ⟨(-2), rfl, rfl, ht⟩) (fun _ h => by cases h) dX12_by_17
set_option maxHeartbeats 4000000 in
set_option maxRecDepth 100000 in
theorem k_X12_ask (l : Launch) (D : va_G) (cA : Nat → ClassId) (h0 : Nat) (m_world : Nat) (m_images : Nat) (m_hasImage : Nat) (m_tape : Nat) (m_five : Nat) (m_fresh : Nat) (m_sums : Nat) (m_pairs : Nat) (m_goesWith : Nat) (m_said : Nat) (m_firstOrder : Nat) (m_tiredBy : Nat) (m_many : Nat) (m_width : Nat) (m_numbers : Nat) (m_moving : Nat) (p0 : Int32) : Met l yX12_ask (Cond.code yX12_ask cX12_ask 8 (some .int) :: TB) (rmd 3 0 0) (PP D cA [(h0, .inr (12, [.int 0, .ref m_world, .ref m_images, .ref m_hasImage, .ref m_tape, .int 0, .ref m_five, .int 0, .int 0, .int 0, .int 0, .int 0, .int 0, .int (-1), .ref m_fresh, .int 0, .int 0, .int 0, .int 0, .int 0, .int 0, .ref m_sums, .ref m_pairs, .ref m_goesWith, .ref m_said, .int 0, .int 0, .ref m_firstOrder, .int 0, .ref m_tiredBy, .int 0, .ref m_many, .ref m_width, .ref m_numbers, .ref m_moving])), (m_world, .inl (cA 1, 122, .inl (fun _ => 0)))] [.ref h0, .int p0]) (vp_Si (fun r => r = (-2))) 0 0 (fun _ => False) := by
  refine Met.ofW (cc := cX12_ask) (maxL := 8) (ret := (some .int)) (by decide) rfl ?_
  intro p e s m args below meth c s₁ B hml hv
  obtain ⟨rfl, hP, hKN⟩ := hv
  have hx := B.exec
  have hb := B.bytes
  have hr := B.returns
  have hts : ∀ w ∈ TB, w.before _ s = true := fun w h => atoms_spec B.pre w (List.mem_cons_of_mem _ h)
  have hown : s.vm.findClass RX12 = some m.cls := findClass_of_methodNamed B.named
  have hlocks := B.notSynchronized
  have hl := lv_entry ([.ref h0, .int p0]) (n := 8) (Nat.le_of_ble_eq_true rfl)
  rw [lg_entry_eq]
  generalize (lg_sl ([.ref h0, .int p0]) ++ List.replicate (8 - (lg_sl ([.ref h0, .int p0])).length) Slot.unset).toArray = ls at hl ⊢
  have hl : lv_has ls 8 [(0, .ref h0), (1, .int p0)] := hl
  refine lv_aload_n hx hb dX12_ask_0 rfl (lv_at hl 0 rfl) ?_
  refine lv_iload_n hx hb dX12_ask_1 rfl (lv_at hl 1 rfl) ?_
  refine lv_iconst (v := 1) hx hb dX12_ask_2 (by decide) ?_
  refine cpVi (rest := []) ⟨hx, hb, hml, hown, hts⟩ hKN (hP.sub (ws' := [(h0, .inr (12, [.int 0, .ref m_world, .ref m_images, .ref m_hasImage, .ref m_tape, .int 0, .ref m_five, .int 0, .int 0, .int 0, .int 0, .int 0, .int 0, .int (-1), .ref m_fresh, .int 0, .int 0, .int 0, .int 0, .int 0, .int 0, .ref m_sums, .ref m_pairs, .ref m_goesWith, .ref m_said, .int 0, .int 0, .ref m_firstOrder, .int 0, .ref m_tiredBy, .int 0, .ref m_many, .ref m_width, .ref m_numbers, .ref m_moving])), (m_world, .inl (cA 1, 122, .inl (fun _ => 0)))]) [0, 1] rfl) (k_X12_layTired l D cA h0 m_world m_images m_hasImage m_tape m_five m_fresh m_sums m_pairs m_goesWith m_said m_firstOrder m_tiredBy m_many m_width m_numbers m_moving p0 1) (tb_V tw_2015 tw_2017 tw_93 tw_114 tw_2018) hdX12_layTired ⟨rfl, rfl, Nat.le_of_ble_eq_true rfl, Nat.le_of_ble_eq_true rfl⟩ ⟨Nat.le_of_ble_eq_true rfl, Nat.le_of_ble_eq_true rfl⟩ rfl rfl rfl hl.1 rfl (Nat.le_of_ble_eq_true rfl) dX12_ask_3 (fun r_1 hr_1 => ?_)
  obtain rfl : r_1 = (-2) := hr_1
  refine lv_istore_n (lv' := [(2, .int (-2)), (0, .ref h0), (1, .int p0)]) hx hb dX12_ask_6 rfl hl (by decide) rfl (fun ls hl => ?_)
  refine lv_iload_n hx hb dX12_ask_7 rfl (lv_at hl 0 rfl) ?_
  refine lv_if_ge (tgt := 13) hx hb dX12_ask_8 (by decide) (fun c_2 => absurd c_2 (by decide)) (fun c_2 => ?_)
  refine lv_iload_n hx hb dX12_ask_11 rfl (lv_at hl 0 rfl) ?_
  exact W.iret (v := (-2)) hx hb hr (fun t ht hW => ⟨(-2), rfl, rfl, ht⟩) (fun _ h => by cases h) dX12_ask_12
set_option maxHeartbeats 4000000 in
set_option maxRecDepth 100000 in
theorem k_X12_sure (l : Launch) (D : va_G) (cA : Nat → ClassId) (h0 : Nat) (m_world : Nat) (m_images : Nat) (m_hasImage : Nat) (m_tape : Nat) (m_five : Nat) (m_fresh : Nat) (m_sums : Nat) (m_pairs : Nat) (m_goesWith : Nat) (m_said : Nat) (m_firstOrder : Nat) (m_tiredBy : Nat) (m_many : Nat) (m_width : Nat) (m_numbers : Nat) (m_moving : Nat) (p0 : Int32) (p1 : Int32) (p2 : Int32) : Met l yX12_sure (Cond.code yX12_sure cX12_sure 5 (some .int) :: TB) (rmd 3 0 0) (PP D cA [(h0, .inr (12, [.int 0, .ref m_world, .ref m_images, .ref m_hasImage, .ref m_tape, .int 0, .ref m_five, .int 0, .int 0, .int 0, .int 0, .int 0, .int 0, .int (-1), .ref m_fresh, .int 0, .int 0, .int 0, .int 0, .int 0, .int 0, .ref m_sums, .ref m_pairs, .ref m_goesWith, .ref m_said, .int 0, .int 0, .ref m_firstOrder, .int 0, .ref m_tiredBy, .int 0, .ref m_many, .ref m_width, .ref m_numbers, .ref m_moving])), (m_world, .inl (cA 1, 122, .inl (fun _ => 0)))] [.ref h0, .int p0, .int p1, .int p2]) (vp_Si (fun r => r = (-2))) 0 0 (fun _ => False) := by
  refine Met.ofW (cc := cX12_sure) (maxL := 5) (ret := (some .int)) (by decide) rfl ?_
  intro p e s m args below meth c s₁ B hml hv
  obtain ⟨rfl, hP, hKN⟩ := hv
  have hx := B.exec
  have hb := B.bytes
  have hr := B.returns
  have hts : ∀ w ∈ TB, w.before _ s = true := fun w h => atoms_spec B.pre w (List.mem_cons_of_mem _ h)
  have hown : s.vm.findClass RX12 = some m.cls := findClass_of_methodNamed B.named
  have hlocks := B.notSynchronized
  have hl := lv_entry ([.ref h0, .int p0, .int p1, .int p2]) (n := 5) (Nat.le_of_ble_eq_true rfl)
  rw [lg_entry_eq]
  generalize (lg_sl ([.ref h0, .int p0, .int p1, .int p2]) ++ List.replicate (5 - (lg_sl ([.ref h0, .int p0, .int p1, .int p2])).length) Slot.unset).toArray = ls at hl ⊢
  have hl : lv_has ls 5 [(0, .ref h0), (1, .int p0), (2, .int p1), (3, .int p2)] := hl
  refine lv_aload_n hx hb dX12_sure_0 rfl (lv_at hl 0 rfl) ?_
  refine lv_iload_n hx hb dX12_sure_1 rfl (lv_at hl 1 rfl) ?_
  refine lv_iload_n hx hb dX12_sure_2 rfl (lv_at hl 2 rfl) ?_
  refine cpVi (rest := []) ⟨hx, hb, hml, hown, hts⟩ hKN (hP.sub (ws' := [(h0, .inr (12, [.int 0, .ref m_world, .ref m_images, .ref m_hasImage, .ref m_tape, .int 0, .ref m_five, .int 0, .int 0, .int 0, .int 0, .int 0, .int 0, .int (-1), .ref m_fresh, .int 0, .int 0, .int 0, .int 0, .int 0, .int 0, .ref m_sums, .ref m_pairs, .ref m_goesWith, .ref m_said, .int 0, .int 0, .ref m_firstOrder, .int 0, .ref m_tiredBy, .int 0, .ref m_many, .ref m_width, .ref m_numbers, .ref m_moving])), (m_world, .inl (cA 1, 122, .inl (fun _ => 0)))]) [0, 1] rfl) (k_X12_areMen l D cA h0 m_world m_images m_hasImage m_tape m_five m_fresh m_sums m_pairs m_goesWith m_said m_firstOrder m_tiredBy m_many m_width m_numbers m_moving p0 p1) (tb_V tw_1771 tw_1773 tw_68 tw_114 tw_1774) hdX12_areMen ⟨rfl, rfl, Nat.le_of_ble_eq_true rfl, Nat.le_of_ble_eq_true rfl⟩ ⟨Nat.le_of_ble_eq_true rfl, Nat.le_of_ble_eq_true rfl⟩ rfl rfl rfl hl.1 rfl (Nat.le_of_ble_eq_true rfl) dX12_sure_3 (fun r_1 hr_1 => ?_)
  obtain rfl : r_1 = 0 := hr_1
  refine lv_if_eq (tgt := 21) hx hb dX12_sure_6 (by decide) (fun c_2 => ?_) (fun c_2 => absurd (by decide) c_2)
  refine lv_bipush (v := (-2)) hx hb dX12_sure_21 (by decide) ?_
  exact W.iret (v := (-2)) hx hb hr (fun t ht hW => ⟨(-2), rfl, rfl, ht⟩) (fun _ h => by cases h) dX12_sure_23
set_option maxHeartbeats 4000000 in
set_option maxRecDepth 100000 in
theorem k_X12_push (l : Launch) (D : va_G) (cA : Nat → ClassId) (h0 : Nat) (m_world : Nat) (m_images : Nat) (m_hasImage : Nat) (m_tape : Nat) (m_five : Nat) (m_fresh : Nat) (m_sums : Nat) (m_pairs : Nat) (m_goesWith : Nat) (m_said : Nat) (m_firstOrder : Nat) (m_tiredBy : Nat) (m_many : Nat) (m_width : Nat) (m_numbers : Nat) (m_moving : Nat) (p0 : Int32) (p1 : Int32) : Met l yX12_push (Cond.code yX12_push cX12_push 3 (some .int) :: TB) (rmd 2 0 0) (PP D cA [(h0, .inr (12, [.int 0, .ref m_world, .ref m_images, .ref m_hasImage, .ref m_tape, .int 0, .ref m_five, .int 0, .int 0, .int 0, .int 0, .int 0, .int 0, .int (-1), .ref m_fresh, .int 0, .int 0, .int 0, .int 0, .int 0, .int 0, .ref m_sums, .ref m_pairs, .ref m_goesWith, .ref m_said, .int 0, .int 0, .ref m_firstOrder, .int 0, .ref m_tiredBy, .int 0, .ref m_many, .ref m_width, .ref m_numbers, .ref m_moving])), (m_world, .inl (cA 1, 122, .inl (fun _ => 0)))] [.ref h0, .int p0, .int p1]) (vp_Si (fun r => r = (-2))) 0 0 (fun _ => False) := by
  refine Met.ofW (cc := cX12_push) (maxL := 3) (ret := (some .int)) (by decide) rfl ?_
  intro p e s m args below meth c s₁ B hml hv
  obtain ⟨rfl, hP, hKN⟩ := hv
  have hx := B.exec
  have hb := B.bytes
  have hr := B.returns
  have hts : ∀ w ∈ TB, w.before _ s = true := fun w h => atoms_spec B.pre w (List.mem_cons_of_mem _ h)
  have hown : s.vm.findClass RX12 = some m.cls := findClass_of_methodNamed B.named
  have hlocks := B.notSynchronized
  have hl := lv_entry ([.ref h0, .int p0, .int p1]) (n := 3) (Nat.le_of_ble_eq_true rfl)
  rw [lg_entry_eq]
  generalize (lg_sl ([.ref h0, .int p0, .int p1]) ++ List.replicate (3 - (lg_sl ([.ref h0, .int p0, .int p1])).length) Slot.unset).toArray = ls at hl ⊢
  have hl : lv_has ls 3 [(0, .ref h0), (1, .int p0), (2, .int p1)] := hl
  refine lv_aload_n hx hb dX12_push_0 rfl (lv_at hl 0 rfl) ?_
  refine lv_iload_n hx hb dX12_push_1 rfl (lv_at hl 1 rfl) ?_
  refine cpVi (rest := []) ⟨hx, hb, hml, hown, hts⟩ hKN (hP.sub (ws' := [(h0, .inr (12, [.int 0, .ref m_world, .ref m_images, .ref m_hasImage, .ref m_tape, .int 0, .ref m_five, .int 0, .int 0, .int 0, .int 0, .int 0, .int 0, .int (-1), .ref m_fresh, .int 0, .int 0, .int 0, .int 0, .int 0, .int 0, .ref m_sums, .ref m_pairs, .ref m_goesWith, .ref m_said, .int 0, .int 0, .ref m_firstOrder, .int 0, .ref m_tiredBy, .int 0, .ref m_many, .ref m_width, .ref m_numbers, .ref m_moving])), (m_world, .inl (cA 1, 122, .inl (fun _ => 0)))]) [0, 1] rfl) (k_X12_isSide l D cA h0 m_world m_images m_hasImage m_tape m_five m_fresh m_sums m_pairs m_goesWith m_said m_firstOrder m_tiredBy m_many m_width m_numbers m_moving p0) (tb_V tw_1660 tw_1662 tw_53 tw_114 tw_1663) hdX12_isSide ⟨rfl, rfl, Nat.le_of_ble_eq_true rfl, Nat.le_of_ble_eq_true rfl⟩ ⟨Nat.le_of_ble_eq_true rfl, Nat.le_of_ble_eq_true rfl⟩ rfl rfl rfl hl.1 rfl (Nat.le_of_ble_eq_true rfl) dX12_push_2 (fun r_1 hr_1 => ?_)
  obtain rfl : r_1 = 0 := hr_1
  refine lv_if_eq (tgt := 20) hx hb dX12_push_5 (by decide) (fun c_2 => ?_) (fun c_2 => absurd (by decide) c_2)
  refine lv_bipush (v := (-2)) hx hb dX12_push_20 (by decide) ?_
  exact W.iret (v := (-2)) hx hb hr (fun t ht hW => ⟨(-2), rfl, rfl, ht⟩) (fun _ h => by cases h) dX12_push_22
set_option maxHeartbeats 4000000 in
set_option maxRecDepth 100000 in
theorem k_X12_swing (l : Launch) (D : va_G) (cA : Nat → ClassId) (h0 : Nat) (m_world : Nat) (m_images : Nat) (m_hasImage : Nat) (m_tape : Nat) (m_five : Nat) (m_fresh : Nat) (m_sums : Nat) (m_pairs : Nat) (m_goesWith : Nat) (m_said : Nat) (m_firstOrder : Nat) (m_tiredBy : Nat) (m_many : Nat) (m_width : Nat) (m_numbers : Nat) (m_moving : Nat) (p0 : Int32) (p1 : Int32) : Met l yX12_swing (Cond.code yX12_swing cX12_swing 3 (some .int) :: TB) (rmd 3 0 0) (PP D cA [(h0, .inr (12, [.int 0, .ref m_world, .ref m_images, .ref m_hasImage, .ref m_tape, .int 0, .ref m_five, .int 0, .int 0, .int 0, .int 0, .int 0, .int 0, .int (-1), .ref m_fresh, .int 0, .int 0, .int 0, .int 0, .int 0, .int 0, .ref m_sums, .ref m_pairs, .ref m_goesWith, .ref m_said, .int 0, .int 0, .ref m_firstOrder, .int 0, .ref m_tiredBy, .int 0, .ref m_many, .ref m_width, .ref m_numbers, .ref m_moving])), (m_world, .inl (cA 1, 122, .inl (fun _ => 0)))] [.ref h0, .int p0, .int p1]) (vp_Si (fun r => r = (-2))) 0 0 (fun _ => False) := by
  refine Met.ofW (cc := cX12_swing) (maxL := 3) (ret := (some .int)) (by decide) rfl ?_
  intro p e s m args below meth c s₁ B hml hv
  obtain ⟨rfl, hP, hKN⟩ := hv
  have hx := B.exec
  have hb := B.bytes
  have hr := B.returns
  have hts : ∀ w ∈ TB, w.before _ s = true := fun w h => atoms_spec B.pre w (List.mem_cons_of_mem _ h)
  have hown : s.vm.findClass RX12 = some m.cls := findClass_of_methodNamed B.named
  have hlocks := B.notSynchronized
  have hl := lv_entry ([.ref h0, .int p0, .int p1]) (n := 3) (Nat.le_of_ble_eq_true rfl)
  rw [lg_entry_eq]
  generalize (lg_sl ([.ref h0, .int p0, .int p1]) ++ List.replicate (3 - (lg_sl ([.ref h0, .int p0, .int p1])).length) Slot.unset).toArray = ls at hl ⊢
  have hl : lv_has ls 3 [(0, .ref h0), (1, .int p0), (2, .int p1)] := hl
  refine lv_aload_n hx hb dX12_swing_0 rfl (lv_at hl 0 rfl) ?_
  refine lv_iload_n hx hb dX12_swing_1 rfl (lv_at hl 1 rfl) ?_
  refine lv_iload_n hx hb dX12_swing_2 rfl (lv_at hl 2 rfl) ?_
  refine cpVi (rest := []) ⟨hx, hb, hml, hown, hts⟩ hKN (hP.sub (ws' := [(h0, .inr (12, [.int 0, .ref m_world, .ref m_images, .ref m_hasImage, .ref m_tape, .int 0, .ref m_five, .int 0, .int 0, .int 0, .int 0, .int 0, .int 0, .int (-1), .ref m_fresh, .int 0, .int 0, .int 0, .int 0, .int 0, .int 0, .ref m_sums, .ref m_pairs, .ref m_goesWith, .ref m_said, .int 0, .int 0, .ref m_firstOrder, .int 0, .ref m_tiredBy, .int 0, .ref m_many, .ref m_width, .ref m_numbers, .ref m_moving])), (m_world, .inl (cA 1, 122, .inl (fun _ => 0)))]) [0, 1] rfl) (k_X12_areMen l D cA h0 m_world m_images m_hasImage m_tape m_five m_fresh m_sums m_pairs m_goesWith m_said m_firstOrder m_tiredBy m_many m_width m_numbers m_moving p0 p1) (tb_V tw_1771 tw_1773 tw_68 tw_114 tw_1774) hdX12_areMen ⟨rfl, rfl, Nat.le_of_ble_eq_true rfl, Nat.le_of_ble_eq_true rfl⟩ ⟨Nat.le_of_ble_eq_true rfl, Nat.le_of_ble_eq_true rfl⟩ rfl rfl rfl hl.1 rfl (Nat.le_of_ble_eq_true rfl) dX12_swing_3 (fun r_1 hr_1 => ?_)
  obtain rfl : r_1 = 0 := hr_1
  refine lv_if_eq (tgt := 18) hx hb dX12_swing_6 (by decide) (fun c_2 => ?_) (fun c_2 => absurd (by decide) c_2)
  refine lv_bipush (v := (-2)) hx hb dX12_swing_18 (by decide) ?_
  exact W.iret (v := (-2)) hx hb hr (fun t ht hW => ⟨(-2), rfl, rfl, ht⟩) (fun _ h => by cases h) dX12_swing_20
set_option maxHeartbeats 4000000 in
set_option maxRecDepth 100000 in
theorem k_X12_sign (l : Launch) (D : va_G) (cA : Nat → ClassId) (h0 : Nat) (m_world : Nat) (m_images : Nat) (m_hasImage : Nat) (m_tape : Nat) (m_five : Nat) (m_fresh : Nat) (m_sums : Nat) (m_pairs : Nat) (m_goesWith : Nat) (m_said : Nat) (m_firstOrder : Nat) (m_tiredBy : Nat) (m_many : Nat) (m_width : Nat) (m_numbers : Nat) (m_moving : Nat) (p0 : Int32) : Met l yX12_sign (Cond.code yX12_sign cX12_sign 2 (some .int) :: TB) (rmd 2 0 0) (PP D cA [(h0, .inr (12, [.int 0, .ref m_world, .ref m_images, .ref m_hasImage, .ref m_tape, .int 0, .ref m_five, .int 0, .int 0, .int 0, .int 0, .int 0, .int 0, .int (-1), .ref m_fresh, .int 0, .int 0, .int 0, .int 0, .int 0, .int 0, .ref m_sums, .ref m_pairs, .ref m_goesWith, .ref m_said, .int 0, .int 0, .ref m_firstOrder, .int 0, .ref m_tiredBy, .int 0, .ref m_many, .ref m_width, .ref m_numbers, .ref m_moving])), (m_world, .inl (cA 1, 122, .inl (fun _ => 0)))] [.ref h0, .int p0]) (vp_Si (fun r => r = (-2))) 0 0 (fun _ => False) := by
  refine Met.ofW (cc := cX12_sign) (maxL := 2) (ret := (some .int)) (by decide) rfl ?_
  intro p e s m args below meth c s₁ B hml hv
  obtain ⟨rfl, hP, hKN⟩ := hv
  have hx := B.exec
  have hb := B.bytes
  have hr := B.returns
  have hts : ∀ w ∈ TB, w.before _ s = true := fun w h => atoms_spec B.pre w (List.mem_cons_of_mem _ h)
  have hown : s.vm.findClass RX12 = some m.cls := findClass_of_methodNamed B.named
  have hlocks := B.notSynchronized
  have hl := lv_entry ([.ref h0, .int p0]) (n := 2) (Nat.le_of_ble_eq_true rfl)
  rw [lg_entry_eq]
  generalize (lg_sl ([.ref h0, .int p0]) ++ List.replicate (2 - (lg_sl ([.ref h0, .int p0])).length) Slot.unset).toArray = ls at hl ⊢
  have hl : lv_has ls 2 [(0, .ref h0), (1, .int p0)] := hl
  refine lv_aload_n hx hb dX12_sign_0 rfl (lv_at hl 0 rfl) ?_
  refine lv_iload_n hx hb dX12_sign_1 rfl (lv_at hl 1 rfl) ?_
  obtain ⟨x_1, ex_1⟩ : ∃ y, p0.toInt64 = y := ⟨_, rfl⟩
  refine lv_i2l (v := x_1) hx hb dX12_sign_2 ex_1 ?_
  have k_2 := tt_i2l ex_1
  refine cpVi (rest := []) ⟨hx, hb, hml, hown, hts⟩ hKN (hP.sub (ws' := [(h0, .inr (12, [.int 0, .ref m_world, .ref m_images, .ref m_hasImage, .ref m_tape, .int 0, .ref m_five, .int 0, .int 0, .int 0, .int 0, .int 0, .int 0, .int (-1), .ref m_fresh, .int 0, .int 0, .int 0, .int 0, .int 0, .int 0, .ref m_sums, .ref m_pairs, .ref m_goesWith, .ref m_said, .int 0, .int 0, .ref m_firstOrder, .int 0, .ref m_tiredBy, .int 0, .ref m_many, .ref m_width, .ref m_numbers, .ref m_moving])), (m_world, .inl (cA 1, 122, .inl (fun _ => 0)))]) [0, 1] rfl) (k_X12_isClause l D cA h0 m_world m_images m_hasImage m_tape m_five m_fresh m_sums m_pairs m_goesWith m_said m_firstOrder m_tiredBy m_many m_width m_numbers m_moving x_1) (tb_V tw_1648 tw_1650 tw_51 tw_114 tw_1651) hdX12_isClause ⟨rfl, rfl, Nat.le_of_ble_eq_true rfl, Nat.le_of_ble_eq_true rfl⟩ ⟨Nat.le_of_ble_eq_true rfl, Nat.le_of_ble_eq_true rfl⟩ rfl rfl rfl hl.1 rfl (Nat.le_of_ble_eq_true rfl) dX12_sign_3 (fun r_3 hr_3 => ?_)
  obtain rfl : r_3 = 0 := hr_3
  refine lv_if_ne (tgt := 12) hx hb dX12_sign_6 (by decide) (fun c_4 => absurd (by decide) c_4) (fun c_4 => ?_)
  refine lv_bipush (v := (-2)) hx hb dX12_sign_9 (by decide) ?_
  exact W.iret (v := (-2)) hx hb hr (fun t ht hW => ⟨(-2), rfl, rfl, ht⟩) (fun _ h => by cases h) dX12_sign_11
set_option maxHeartbeats 4000000 in
set_option maxRecDepth 100000 in
theorem k_X12_drop (l : Launch) (D : va_G) (cA : Nat → ClassId) (h0 : Nat) (m_world : Nat) (m_images : Nat) (m_hasImage : Nat) (m_tape : Nat) (m_five : Nat) (m_fresh : Nat) (m_sums : Nat) (m_pairs : Nat) (m_goesWith : Nat) (m_said : Nat) (m_firstOrder : Nat) (m_tiredBy : Nat) (m_many : Nat) (m_width : Nat) (m_numbers : Nat) (m_moving : Nat) : Met l yX12_drop (Cond.code yX12_drop cX12_drop 1 (some .int) :: TB) (rmd 1 0 0) (PP D cA [(h0, .inr (12, [.int 0, .ref m_world, .ref m_images, .ref m_hasImage, .ref m_tape, .int 0, .ref m_five, .int 0, .int 0, .int 0, .int 0, .int 0, .int 0, .int (-1), .ref m_fresh, .int 0, .int 0, .int 0, .int 0, .int 0, .int 0, .ref m_sums, .ref m_pairs, .ref m_goesWith, .ref m_said, .int 0, .int 0, .ref m_firstOrder, .int 0, .ref m_tiredBy, .int 0, .ref m_many, .ref m_width, .ref m_numbers, .ref m_moving])), (m_world, .inl (cA 1, 122, .inl (fun _ => 0)))] [.ref h0]) (vp_Si (fun r => r = (-2))) 0 0 (fun _ => False) := by
  refine Met.ofW (cc := cX12_drop) (maxL := 1) (ret := (some .int)) (by decide) rfl ?_
  intro p e s m args below meth c s₁ B hml hv
  obtain ⟨rfl, hP, hKN⟩ := hv
  have hx := B.exec
  have hb := B.bytes
  have hr := B.returns
  have hts : ∀ w ∈ TB, w.before _ s = true := fun w h => atoms_spec B.pre w (List.mem_cons_of_mem _ h)
  have hown : s.vm.findClass RX12 = some m.cls := findClass_of_methodNamed B.named
  have hlocks := B.notSynchronized
  have hl := lv_entry ([.ref h0]) (n := 1) (Nat.le_of_ble_eq_true rfl)
  rw [lg_entry_eq]
  generalize (lg_sl ([.ref h0]) ++ List.replicate (1 - (lg_sl ([.ref h0])).length) Slot.unset).toArray = ls at hl ⊢
  have hl : lv_has ls 1 [(0, .ref h0)] := hl
  refine lv_aload_n hx hb dX12_drop_0 rfl (lv_at hl 0 rfl) ?_
  refine cpVi (rest := []) ⟨hx, hb, hml, hown, hts⟩ hKN (hP.sub (ws' := [(h0, .inr (12, [.int 0, .ref m_world, .ref m_images, .ref m_hasImage, .ref m_tape, .int 0, .ref m_five, .int 0, .int 0, .int 0, .int 0, .int 0, .int 0, .int (-1), .ref m_fresh, .int 0, .int 0, .int 0, .int 0, .int 0, .int 0, .ref m_sums, .ref m_pairs, .ref m_goesWith, .ref m_said, .int 0, .int 0, .ref m_firstOrder, .int 0, .ref m_tiredBy, .int 0, .ref m_many, .ref m_width, .ref m_numbers, .ref m_moving])), (m_world, .inl (cA 1, 122, .inl (fun _ => 0)))]) [0, 1] rfl) (k_X12_isGorge l D cA h0 m_world m_images m_hasImage m_tape m_five m_fresh m_sums m_pairs m_goesWith m_said m_firstOrder m_tiredBy m_many m_width m_numbers m_moving) (tb_V tw_1664 tw_1666 tw_54 tw_114 tw_1667) hdX12_isGorge ⟨rfl, rfl, Nat.le_of_ble_eq_true rfl, Nat.le_of_ble_eq_true rfl⟩ ⟨Nat.le_of_ble_eq_true rfl, Nat.le_of_ble_eq_true rfl⟩ rfl rfl rfl hl.1 rfl (Nat.le_of_ble_eq_true rfl) dX12_drop_1 (fun r_1 hr_1 => ?_)
  obtain rfl : r_1 = 0 := hr_1
  refine lv_if_ne (tgt := 10) hx hb dX12_drop_4 (by decide) (fun c_2 => absurd (by decide) c_2) (fun c_2 => ?_)
  refine lv_bipush (v := (-2)) hx hb dX12_drop_7 (by decide) ?_
  exact W.iret (v := (-2)) hx hb hr (fun t ht hW => ⟨(-2), rfl, rfl, ht⟩) (fun _ h => by cases h) dX12_drop_9
set_option maxHeartbeats 4000000 in
set_option maxRecDepth 100000 in
theorem k_X12_undo (l : Launch) (D : va_G) (cA : Nat → ClassId) (h0 : Nat) (m_world : Nat) (m_images : Nat) (m_hasImage : Nat) (m_tape : Nat) (m_five : Nat) (m_fresh : Nat) (m_sums : Nat) (m_pairs : Nat) (m_goesWith : Nat) (m_said : Nat) (m_firstOrder : Nat) (m_tiredBy : Nat) (m_many : Nat) (m_width : Nat) (m_numbers : Nat) (m_moving : Nat) : Met l yX12_undo (Cond.code yX12_undo cX12_undo 1 (some .int) :: TB) (rmd 1 0 0) (PP D cA [(h0, .inr (12, [.int 0, .ref m_world, .ref m_images, .ref m_hasImage, .ref m_tape, .int 0, .ref m_five, .int 0, .int 0, .int 0, .int 0, .int 0, .int 0, .int (-1), .ref m_fresh, .int 0, .int 0, .int 0, .int 0, .int 0, .int 0, .ref m_sums, .ref m_pairs, .ref m_goesWith, .ref m_said, .int 0, .int 0, .ref m_firstOrder, .int 0, .ref m_tiredBy, .int 0, .ref m_many, .ref m_width, .ref m_numbers, .ref m_moving])), (m_world, .inl (cA 1, 122, .inl (fun _ => 0)))] [.ref h0]) (vp_Si (fun r => r = (-2))) 0 0 (fun _ => False) := by
  refine Met.ofW (cc := cX12_undo) (maxL := 1) (ret := (some .int)) (by decide) rfl ?_
  intro p e s m args below meth c s₁ B hml hv
  obtain ⟨rfl, hP, hKN⟩ := hv
  have hx := B.exec
  have hb := B.bytes
  have hr := B.returns
  have hts : ∀ w ∈ TB, w.before _ s = true := fun w h => atoms_spec B.pre w (List.mem_cons_of_mem _ h)
  have hown : s.vm.findClass RX12 = some m.cls := findClass_of_methodNamed B.named
  have hlocks := B.notSynchronized
  have hl := lv_entry ([.ref h0]) (n := 1) (Nat.le_of_ble_eq_true rfl)
  rw [lg_entry_eq]
  generalize (lg_sl ([.ref h0]) ++ List.replicate (1 - (lg_sl ([.ref h0])).length) Slot.unset).toArray = ls at hl ⊢
  have hl : lv_has ls 1 [(0, .ref h0)] := hl
  refine lv_aload_n hx hb dX12_undo_0 rfl (lv_at hl 0 rfl) ?_
  refine cpVi (rest := []) ⟨hx, hb, hml, hown, hts⟩ hKN (hP.sub (ws' := [(h0, .inr (12, [.int 0, .ref m_world, .ref m_images, .ref m_hasImage, .ref m_tape, .int 0, .ref m_five, .int 0, .int 0, .int 0, .int 0, .int 0, .int 0, .int (-1), .ref m_fresh, .int 0, .int 0, .int 0, .int 0, .int 0, .int 0, .ref m_sums, .ref m_pairs, .ref m_goesWith, .ref m_said, .int 0, .int 0, .ref m_firstOrder, .int 0, .ref m_tiredBy, .int 0, .ref m_many, .ref m_width, .ref m_numbers, .ref m_moving])), (m_world, .inl (cA 1, 122, .inl (fun _ => 0)))]) [0, 1] rfl) (k_X12_isGorge l D cA h0 m_world m_images m_hasImage m_tape m_five m_fresh m_sums m_pairs m_goesWith m_said m_firstOrder m_tiredBy m_many m_width m_numbers m_moving) (tb_V tw_1664 tw_1666 tw_54 tw_114 tw_1667) hdX12_isGorge ⟨rfl, rfl, Nat.le_of_ble_eq_true rfl, Nat.le_of_ble_eq_true rfl⟩ ⟨Nat.le_of_ble_eq_true rfl, Nat.le_of_ble_eq_true rfl⟩ rfl rfl rfl hl.1 rfl (Nat.le_of_ble_eq_true rfl) dX12_undo_1 (fun r_1 hr_1 => ?_)
  obtain rfl : r_1 = 0 := hr_1
  refine lv_if_ne (tgt := 10) hx hb dX12_undo_4 (by decide) (fun c_2 => absurd (by decide) c_2) (fun c_2 => ?_)
  refine lv_bipush (v := (-2)) hx hb dX12_undo_7 (by decide) ?_
  exact W.iret (v := (-2)) hx hb hr (fun t ht hW => ⟨(-2), rfl, rfl, ht⟩) (fun _ h => by cases h) dX12_undo_9
set_option maxHeartbeats 4000000 in
set_option maxRecDepth 100000 in
theorem k_X12_anew (l : Launch) (D : va_G) (cA : Nat → ClassId) (h0 : Nat) (m_world : Nat) (m_images : Nat) (m_hasImage : Nat) (m_tape : Nat) (m_five : Nat) (m_fresh : Nat) (m_sums : Nat) (m_pairs : Nat) (m_goesWith : Nat) (m_said : Nat) (m_firstOrder : Nat) (m_tiredBy : Nat) (m_many : Nat) (m_width : Nat) (m_numbers : Nat) (m_moving : Nat) : Met l yX12_anew (Cond.code yX12_anew cX12_anew 2 (some .int) :: TB) (rmd 1 0 0) (PP D cA [(h0, .inr (12, [.int 0, .ref m_world, .ref m_images, .ref m_hasImage, .ref m_tape, .int 0, .ref m_five, .int 0, .int 0, .int 0, .int 0, .int 0, .int 0, .int (-1), .ref m_fresh, .int 0, .int 0, .int 0, .int 0, .int 0, .int 0, .ref m_sums, .ref m_pairs, .ref m_goesWith, .ref m_said, .int 0, .int 0, .ref m_firstOrder, .int 0, .ref m_tiredBy, .int 0, .ref m_many, .ref m_width, .ref m_numbers, .ref m_moving])), (m_world, .inl (cA 1, 122, .inl (fun _ => 0)))] [.ref h0]) (vp_Si (fun r => r = (-2))) 0 0 (fun _ => False) := by
  refine Met.ofW (cc := cX12_anew) (maxL := 2) (ret := (some .int)) (by decide) rfl ?_
  intro p e s m args below meth c s₁ B hml hv
  obtain ⟨rfl, hP, hKN⟩ := hv
  have hx := B.exec
  have hb := B.bytes
  have hr := B.returns
  have hts : ∀ w ∈ TB, w.before _ s = true := fun w h => atoms_spec B.pre w (List.mem_cons_of_mem _ h)
  have hown : s.vm.findClass RX12 = some m.cls := findClass_of_methodNamed B.named
  have hlocks := B.notSynchronized
  have hl := lv_entry ([.ref h0]) (n := 2) (Nat.le_of_ble_eq_true rfl)
  rw [lg_entry_eq]
  generalize (lg_sl ([.ref h0]) ++ List.replicate (2 - (lg_sl ([.ref h0])).length) Slot.unset).toArray = ls at hl ⊢
  have hl : lv_has ls 2 [(0, .ref h0)] := hl
  refine lv_aload_n hx hb dX12_anew_0 rfl (lv_at hl 0 rfl) ?_
  refine cpVi (rest := []) ⟨hx, hb, hml, hown, hts⟩ hKN (hP.sub (ws' := [(h0, .inr (12, [.int 0, .ref m_world, .ref m_images, .ref m_hasImage, .ref m_tape, .int 0, .ref m_five, .int 0, .int 0, .int 0, .int 0, .int 0, .int 0, .int (-1), .ref m_fresh, .int 0, .int 0, .int 0, .int 0, .int 0, .int 0, .ref m_sums, .ref m_pairs, .ref m_goesWith, .ref m_said, .int 0, .int 0, .ref m_firstOrder, .int 0, .ref m_tiredBy, .int 0, .ref m_many, .ref m_width, .ref m_numbers, .ref m_moving])), (m_world, .inl (cA 1, 122, .inl (fun _ => 0)))]) [0, 1] rfl) (k_X12_isGorge l D cA h0 m_world m_images m_hasImage m_tape m_five m_fresh m_sums m_pairs m_goesWith m_said m_firstOrder m_tiredBy m_many m_width m_numbers m_moving) (tb_V tw_1664 tw_1666 tw_54 tw_114 tw_1667) hdX12_isGorge ⟨rfl, rfl, Nat.le_of_ble_eq_true rfl, Nat.le_of_ble_eq_true rfl⟩ ⟨Nat.le_of_ble_eq_true rfl, Nat.le_of_ble_eq_true rfl⟩ rfl rfl rfl hl.1 rfl (Nat.le_of_ble_eq_true rfl) dX12_anew_1 (fun r_1 hr_1 => ?_)
  obtain rfl : r_1 = 0 := hr_1
  refine lv_if_ne (tgt := 10) hx hb dX12_anew_4 (by decide) (fun c_2 => absurd (by decide) c_2) (fun c_2 => ?_)
  refine lv_bipush (v := (-2)) hx hb dX12_anew_7 (by decide) ?_
  exact W.iret (v := (-2)) hx hb hr (fun t ht hW => ⟨(-2), rfl, rfl, ht⟩) (fun _ h => by cases h) dX12_anew_9
set_option maxHeartbeats 4000000 in
set_option maxRecDepth 100000 in
theorem k_X12_drawn (l : Launch) (D : va_G) (cA : Nat → ClassId) (h0 : Nat) (m_world : Nat) (m_images : Nat) (m_hasImage : Nat) (m_tape : Nat) (m_five : Nat) (m_fresh : Nat) (m_sums : Nat) (m_pairs : Nat) (m_goesWith : Nat) (m_said : Nat) (m_firstOrder : Nat) (m_tiredBy : Nat) (m_many : Nat) (m_width : Nat) (m_numbers : Nat) (m_moving : Nat) (p0 : Int32) (p1 : Int32) (p2 : Int32) : Met l yX12_drawn (Cond.code yX12_drawn cX12_drawn 4 (some .int) :: TB) (rmd 3 0 0) (PP D cA [(h0, .inr (12, [.int 0, .ref m_world, .ref m_images, .ref m_hasImage, .ref m_tape, .int 0, .ref m_five, .int 0, .int 0, .int 0, .int 0, .int 0, .int 0, .int (-1), .ref m_fresh, .int 0, .int 0, .int 0, .int 0, .int 0, .int 0, .ref m_sums, .ref m_pairs, .ref m_goesWith, .ref m_said, .int 0, .int 0, .ref m_firstOrder, .int 0, .ref m_tiredBy, .int 0, .ref m_many, .ref m_width, .ref m_numbers, .ref m_moving])), (m_world, .inl (cA 1, 122, .inl (fun _ => 0)))] [.ref h0, .int p0, .int p1, .int p2]) (vp_Si (fun r => r = (-2))) 0 0 (fun _ => False) := by
  refine Met.ofW (cc := cX12_drawn) (maxL := 4) (ret := (some .int)) (by decide) rfl ?_
  intro p e s m args below meth c s₁ B hml hv
  obtain ⟨rfl, hP, hKN⟩ := hv
  have hx := B.exec
  have hb := B.bytes
  have hr := B.returns
  have hts : ∀ w ∈ TB, w.before _ s = true := fun w h => atoms_spec B.pre w (List.mem_cons_of_mem _ h)
  have hown : s.vm.findClass RX12 = some m.cls := findClass_of_methodNamed B.named
  have hlocks := B.notSynchronized
  have hl := lv_entry ([.ref h0, .int p0, .int p1, .int p2]) (n := 4) (Nat.le_of_ble_eq_true rfl)
  rw [lg_entry_eq]
  generalize (lg_sl ([.ref h0, .int p0, .int p1, .int p2]) ++ List.replicate (4 - (lg_sl ([.ref h0, .int p0, .int p1, .int p2])).length) Slot.unset).toArray = ls at hl ⊢
  have hl : lv_has ls 4 [(0, .ref h0), (1, .int p0), (2, .int p1), (3, .int p2)] := hl
  refine lv_iload_n hx hb dX12_drawn_0 rfl (lv_at hl 1 rfl) ?_
  refine cpSi (rest := []) ⟨hx, hb, hml, hown, hts⟩ hKN (hP.sub (ws' := []) [] rfl) (k_X12_isSeed l D cA p0) (tb_S tw_2111 tw_2112 tw_114 tw_2113) hdX12_isSeed ⟨rfl, rfl, Nat.le_of_ble_eq_true rfl, Nat.le_of_ble_eq_true rfl⟩ ⟨Nat.le_of_ble_eq_true rfl, Nat.le_of_ble_eq_true rfl⟩ rfl hl.1 rfl (Nat.le_of_ble_eq_true rfl) dX12_drawn_1 (fun r_1 hr_1 => ?_)
  rcases hr_1 with ⟨k_1_0, rfl⟩ | ⟨k_1_1, rfl⟩
  · skip
    refine lv_if_eq (tgt := 16) hx hb dX12_drawn_4 (by decide) (fun c_2 => absurd c_2 (by decide)) (fun c_2 => ?_)
    refine lv_aload_n hx hb dX12_drawn_7 rfl (lv_at hl 0 rfl) ?_
    refine lv_iload_n hx hb dX12_drawn_8 rfl (lv_at hl 2 rfl) ?_
    refine lv_iload_n hx hb dX12_drawn_9 rfl (lv_at hl 3 rfl) ?_
    refine cpVi (rest := []) ⟨hx, hb, hml, hown, hts⟩ hKN (hP.sub (ws' := [(h0, .inr (12, [.int 0, .ref m_world, .ref m_images, .ref m_hasImage, .ref m_tape, .int 0, .ref m_five, .int 0, .int 0, .int 0, .int 0, .int 0, .int 0, .int (-1), .ref m_fresh, .int 0, .int 0, .int 0, .int 0, .int 0, .int 0, .ref m_sums, .ref m_pairs, .ref m_goesWith, .ref m_said, .int 0, .int 0, .ref m_firstOrder, .int 0, .ref m_tiredBy, .int 0, .ref m_many, .ref m_width, .ref m_numbers, .ref m_moving])), (m_world, .inl (cA 1, 122, .inl (fun _ => 0)))]) [0, 1] rfl) (k_X12_areMen l D cA h0 m_world m_images m_hasImage m_tape m_five m_fresh m_sums m_pairs m_goesWith m_said m_firstOrder m_tiredBy m_many m_width m_numbers m_moving p1 p2) (tb_V tw_1771 tw_1773 tw_68 tw_114 tw_1774) hdX12_areMen ⟨rfl, rfl, Nat.le_of_ble_eq_true rfl, Nat.le_of_ble_eq_true rfl⟩ ⟨Nat.le_of_ble_eq_true rfl, Nat.le_of_ble_eq_true rfl⟩ rfl rfl rfl hl.1 rfl (Nat.le_of_ble_eq_true rfl) dX12_drawn_10 (fun r_3 hr_3 => ?_)
    obtain rfl : r_3 = 0 := hr_3
    refine lv_if_ne (tgt := 19) hx hb dX12_drawn_13 (by decide) (fun c_4 => absurd (by decide) c_4) (fun c_4 => ?_)
    refine lv_bipush (v := (-2)) hx hb dX12_drawn_16 (by decide) ?_
    exact W.iret (v := (-2)) hx hb hr (fun t ht hW => ⟨(-2), rfl, rfl, ht⟩) (fun _ h => by cases h) dX12_drawn_18
  · skip
    refine lv_if_eq (tgt := 16) hx hb dX12_drawn_4 (by decide) (fun c_5 => ?_) (fun c_5 => absurd (by decide) c_5)
    refine lv_bipush (v := (-2)) hx hb dX12_drawn_16 (by decide) ?_
    exact W.iret (v := (-2)) hx hb hr (fun t ht hW => ⟨(-2), rfl, rfl, ht⟩) (fun _ h => by cases h) dX12_drawn_18
set_option maxHeartbeats 4000000 in
set_option maxRecDepth 100000 in
theorem k_X12_luck (l : Launch) (D : va_G) (cA : Nat → ClassId) (h0 : Nat) (m_world : Nat) (m_images : Nat) (m_hasImage : Nat) (m_tape : Nat) (m_five : Nat) (m_fresh : Nat) (m_sums : Nat) (m_pairs : Nat) (m_goesWith : Nat) (m_said : Nat) (m_firstOrder : Nat) (m_tiredBy : Nat) (m_many : Nat) (m_width : Nat) (m_numbers : Nat) (m_moving : Nat) (p0 : Int32) (p1 : Int32) (p2 : Int32) (p3 : Int32) (p4 : Int32) : Met l yX12_luck (Cond.code yX12_luck cX12_luck 8 (some .int) :: TB) (rmd 3 0 0) (PP D cA [(h0, .inr (12, [.int 0, .ref m_world, .ref m_images, .ref m_hasImage, .ref m_tape, .int 0, .ref m_five, .int 0, .int 0, .int 0, .int 0, .int 0, .int 0, .int (-1), .ref m_fresh, .int 0, .int 0, .int 0, .int 0, .int 0, .int 0, .ref m_sums, .ref m_pairs, .ref m_goesWith, .ref m_said, .int 0, .int 0, .ref m_firstOrder, .int 0, .ref m_tiredBy, .int 0, .ref m_many, .ref m_width, .ref m_numbers, .ref m_moving])), (m_world, .inl (cA 1, 122, .inl (fun _ => 0)))] [.ref h0, .int p0, .int p1, .int p2, .int p3, .int p4]) (vp_Si (fun r => r = (-2))) 0 0 (fun _ => False) := by
  refine Met.ofW (cc := cX12_luck) (maxL := 8) (ret := (some .int)) (by decide) rfl ?_
  intro p e s m args below meth c s₁ B hml hv
  obtain ⟨rfl, hP, hKN⟩ := hv
  have hx := B.exec
  have hb := B.bytes
  have hr := B.returns
  have hts : ∀ w ∈ TB, w.before _ s = true := fun w h => atoms_spec B.pre w (List.mem_cons_of_mem _ h)
  have hown : s.vm.findClass RX12 = some m.cls := findClass_of_methodNamed B.named
  have hlocks := B.notSynchronized
  have hl := lv_entry ([.ref h0, .int p0, .int p1, .int p2, .int p3, .int p4]) (n := 8) (Nat.le_of_ble_eq_true rfl)
  rw [lg_entry_eq]
  generalize (lg_sl ([.ref h0, .int p0, .int p1, .int p2, .int p3, .int p4]) ++ List.replicate (8 - (lg_sl ([.ref h0, .int p0, .int p1, .int p2, .int p3, .int p4])).length) Slot.unset).toArray = ls at hl ⊢
  have hl : lv_has ls 8 [(0, .ref h0), (1, .int p0), (2, .int p1), (3, .int p2), (4, .int p3), (5, .int p4)] := hl
  refine lv_iload_n hx hb dX12_luck_0 rfl (lv_at hl 1 rfl) ?_
  refine cpSi (rest := []) ⟨hx, hb, hml, hown, hts⟩ hKN (hP.sub (ws' := []) [] rfl) (k_X12_isSeed l D cA p0) (tb_S tw_2111 tw_2112 tw_114 tw_2113) hdX12_isSeed ⟨rfl, rfl, Nat.le_of_ble_eq_true rfl, Nat.le_of_ble_eq_true rfl⟩ ⟨Nat.le_of_ble_eq_true rfl, Nat.le_of_ble_eq_true rfl⟩ rfl hl.1 rfl (Nat.le_of_ble_eq_true rfl) dX12_luck_1 (fun r_1 hr_1 => ?_)
  rcases hr_1 with ⟨k_1_0, rfl⟩ | ⟨k_1_1, rfl⟩
  · skip
    refine lv_if_eq (tgt := 39) hx hb dX12_luck_4 (by decide) (fun c_2 => absurd c_2 (by decide)) (fun c_2 => ?_)
    refine lv_iload_n hx hb dX12_luck_7 rfl (lv_at hl 2 rfl) ?_
    obtain ⟨x_3, ex_3⟩ : ∃ y, p1.toInt64 = y := ⟨_, rfl⟩
    refine lv_i2l (v := x_3) hx hb dX12_luck_8 ex_3 ?_
    have k_4 := tt_i2l ex_3
    refine lv_lconst (v := 1) hx hb dX12_luck_9 (by decide) ?_
    refine lv_ldc2 (v := 20) hx hb hown (hts _ tw_2126) dX12_luck_10 ?_
    refine cpSi (rest := []) ⟨hx, hb, hml, hown, hts⟩ hKN (hP.sub (ws' := []) [] rfl) (k_X12_in l D cA x_3 1 20) (tb_S tw_1530 tw_1531 tw_114 tw_1532) hdX12_in ⟨rfl, rfl, Nat.le_of_ble_eq_true rfl, Nat.le_of_ble_eq_true rfl⟩ ⟨Nat.le_of_ble_eq_true rfl, Nat.le_of_ble_eq_true rfl⟩ rfl hl.1 rfl (Nat.le_of_ble_eq_true rfl) dX12_luck_13 (fun r_5 hr_5 => ?_)
    rcases hr_5 with ⟨k_5_0, rfl⟩ | ⟨k_5_1, rfl⟩
    · skip
      refine lv_if_eq (tgt := 39) hx hb dX12_luck_16 (by decide) (fun c_6 => absurd c_6 (by decide)) (fun c_6 => ?_)
      refine lv_aload_n hx hb dX12_luck_19 rfl (lv_at hl 0 rfl) ?_
      refine lv_iload_n hx hb dX12_luck_20 rfl (lv_at hl 3 rfl) ?_
      refine lv_iload hx hb dX12_luck_21 (lv_at hl 4 rfl) ?_
      refine cpVi (rest := []) ⟨hx, hb, hml, hown, hts⟩ hKN (hP.sub (ws' := [(h0, .inr (12, [.int 0, .ref m_world, .ref m_images, .ref m_hasImage, .ref m_tape, .int 0, .ref m_five, .int 0, .int 0, .int 0, .int 0, .int 0, .int 0, .int (-1), .ref m_fresh, .int 0, .int 0, .int 0, .int 0, .int 0, .int 0, .ref m_sums, .ref m_pairs, .ref m_goesWith, .ref m_said, .int 0, .int 0, .ref m_firstOrder, .int 0, .ref m_tiredBy, .int 0, .ref m_many, .ref m_width, .ref m_numbers, .ref m_moving])), (m_world, .inl (cA 1, 122, .inl (fun _ => 0)))]) [0, 1] rfl) (k_X12_areMen l D cA h0 m_world m_images m_hasImage m_tape m_five m_fresh m_sums m_pairs m_goesWith m_said m_firstOrder m_tiredBy m_many m_width m_numbers m_moving p2 p3) (tb_V tw_1771 tw_1773 tw_68 tw_114 tw_1774) hdX12_areMen ⟨rfl, rfl, Nat.le_of_ble_eq_true rfl, Nat.le_of_ble_eq_true rfl⟩ ⟨Nat.le_of_ble_eq_true rfl, Nat.le_of_ble_eq_true rfl⟩ rfl rfl rfl hl.1 rfl (Nat.le_of_ble_eq_true rfl) dX12_luck_23 (fun r_7 hr_7 => ?_)
      obtain rfl : r_7 = 0 := hr_7
      refine lv_if_eq (tgt := 39) hx hb dX12_luck_26 (by decide) (fun c_8 => ?_) (fun c_8 => absurd (by decide) c_8)
      refine lv_bipush (v := (-2)) hx hb dX12_luck_39 (by decide) ?_
      exact W.iret (v := (-2)) hx hb hr (fun t ht hW => ⟨(-2), rfl, rfl, ht⟩) (fun _ h => by cases h) dX12_luck_41
    · skip
      refine lv_if_eq (tgt := 39) hx hb dX12_luck_16 (by decide) (fun c_9 => ?_) (fun c_9 => absurd (by decide) c_9)
      refine lv_bipush (v := (-2)) hx hb dX12_luck_39 (by decide) ?_
      exact W.iret (v := (-2)) hx hb hr (fun t ht hW => ⟨(-2), rfl, rfl, ht⟩) (fun _ h => by cases h) dX12_luck_41
  · skip
    refine lv_if_eq (tgt := 39) hx hb dX12_luck_4 (by decide) (fun c_10 => ?_) (fun c_10 => absurd (by decide) c_10)
    refine lv_bipush (v := (-2)) hx hb dX12_luck_39 (by decide) ?_
    exact W.iret (v := (-2)) hx hb hr (fun t ht hW => ⟨(-2), rfl, rfl, ht⟩) (fun _ h => by cases h) dX12_luck_41
set_option maxHeartbeats 4000000 in
set_option maxRecDepth 100000 in
theorem k_X12_grip (l : Launch) (D : va_G) (cA : Nat → ClassId) (h0 : Nat) (m_world : Nat) (m_images : Nat) (m_hasImage : Nat) (m_tape : Nat) (m_five : Nat) (m_fresh : Nat) (m_sums : Nat) (m_pairs : Nat) (m_goesWith : Nat) (m_said : Nat) (m_firstOrder : Nat) (m_tiredBy : Nat) (m_many : Nat) (m_width : Nat) (m_numbers : Nat) (m_moving : Nat) (p0 : Int32) (p1 : Int32) : Met l yX12_grip (Cond.code yX12_grip cX12_grip 4 (some .int) :: TB) (rmd 2 0 0) (PP D cA [(h0, .inr (12, [.int 0, .ref m_world, .ref m_images, .ref m_hasImage, .ref m_tape, .int 0, .ref m_five, .int 0, .int 0, .int 0, .int 0, .int 0, .int 0, .int (-1), .ref m_fresh, .int 0, .int 0, .int 0, .int 0, .int 0, .int 0, .ref m_sums, .ref m_pairs, .ref m_goesWith, .ref m_said, .int 0, .int 0, .ref m_firstOrder, .int 0, .ref m_tiredBy, .int 0, .ref m_many, .ref m_width, .ref m_numbers, .ref m_moving])), (m_world, .inl (cA 1, 122, .inl (fun _ => 0)))] [.ref h0, .int p0, .int p1]) (vp_Si (fun r => r = (-2))) 0 0 (fun _ => False) := by
  refine Met.ofW (cc := cX12_grip) (maxL := 4) (ret := (some .int)) (by decide) rfl ?_
  intro p e s m args below meth c s₁ B hml hv
  obtain ⟨rfl, hP, hKN⟩ := hv
  have hx := B.exec
  have hb := B.bytes
  have hr := B.returns
  have hts : ∀ w ∈ TB, w.before _ s = true := fun w h => atoms_spec B.pre w (List.mem_cons_of_mem _ h)
  have hown : s.vm.findClass RX12 = some m.cls := findClass_of_methodNamed B.named
  have hlocks := B.notSynchronized
  have hl := lv_entry ([.ref h0, .int p0, .int p1]) (n := 4) (Nat.le_of_ble_eq_true rfl)
  rw [lg_entry_eq]
  generalize (lg_sl ([.ref h0, .int p0, .int p1]) ++ List.replicate (4 - (lg_sl ([.ref h0, .int p0, .int p1])).length) Slot.unset).toArray = ls at hl ⊢
  have hl : lv_has ls 4 [(0, .ref h0), (1, .int p0), (2, .int p1)] := hl
  refine lv_aload_n hx hb dX12_grip_0 rfl (lv_at hl 0 rfl) ?_
  refine lv_iload_n hx hb dX12_grip_1 rfl (lv_at hl 1 rfl) ?_
  obtain ⟨x_1, ex_1⟩ : ∃ y, p0.toInt64 = y := ⟨_, rfl⟩
  refine lv_i2l (v := x_1) hx hb dX12_grip_2 ex_1 ?_
  have k_2 := tt_i2l ex_1
  refine cpVi (rest := []) ⟨hx, hb, hml, hown, hts⟩ hKN (hP.sub (ws' := [(h0, .inr (12, [.int 0, .ref m_world, .ref m_images, .ref m_hasImage, .ref m_tape, .int 0, .ref m_five, .int 0, .int 0, .int 0, .int 0, .int 0, .int 0, .int (-1), .ref m_fresh, .int 0, .int 0, .int 0, .int 0, .int 0, .int 0, .ref m_sums, .ref m_pairs, .ref m_goesWith, .ref m_said, .int 0, .int 0, .ref m_firstOrder, .int 0, .ref m_tiredBy, .int 0, .ref m_many, .ref m_width, .ref m_numbers, .ref m_moving])), (m_world, .inl (cA 1, 122, .inl (fun _ => 0)))]) [0, 1] rfl) (k_X12_isMan l D cA h0 m_world m_images m_hasImage m_tape m_five m_fresh m_sums m_pairs m_goesWith m_said m_firstOrder m_tiredBy m_many m_width m_numbers m_moving x_1) (tb_V tw_1636 tw_1638 tw_49 tw_114 tw_1639) hdX12_isMan ⟨rfl, rfl, Nat.le_of_ble_eq_true rfl, Nat.le_of_ble_eq_true rfl⟩ ⟨Nat.le_of_ble_eq_true rfl, Nat.le_of_ble_eq_true rfl⟩ rfl rfl rfl hl.1 rfl (Nat.le_of_ble_eq_true rfl) dX12_grip_3 (fun r_3 hr_3 => ?_)
  obtain rfl : r_3 = 0 := hr_3
  refine lv_if_eq (tgt := 21) hx hb dX12_grip_6 (by decide) (fun c_4 => ?_) (fun c_4 => absurd (by decide) c_4)
  refine lv_bipush (v := (-2)) hx hb dX12_grip_21 (by decide) ?_
  exact W.iret (v := (-2)) hx hb hr (fun t ht hW => ⟨(-2), rfl, rfl, ht⟩) (fun _ h => by cases h) dX12_grip_23
set_option maxHeartbeats 4000000 in
set_option maxRecDepth 100000 in
theorem k_X12_clause (l : Launch) (D : va_G) (cA : Nat → ClassId) (h0 : Nat) (m_world : Nat) (m_images : Nat) (m_hasImage : Nat) (m_tape : Nat) (m_five : Nat) (m_fresh : Nat) (m_sums : Nat) (m_pairs : Nat) (m_goesWith : Nat) (m_said : Nat) (m_firstOrder : Nat) (m_tiredBy : Nat) (m_many : Nat) (m_width : Nat) (m_numbers : Nat) (m_moving : Nat) (p0 : Int32) (p1 : Int32) : Met l yX12_clause (Cond.code yX12_clause cX12_clause 3 (some .int) :: TB) (rmd 2 0 0) (PP D cA [(h0, .inr (12, [.int 0, .ref m_world, .ref m_images, .ref m_hasImage, .ref m_tape, .int 0, .ref m_five, .int 0, .int 0, .int 0, .int 0, .int 0, .int 0, .int (-1), .ref m_fresh, .int 0, .int 0, .int 0, .int 0, .int 0, .int 0, .ref m_sums, .ref m_pairs, .ref m_goesWith, .ref m_said, .int 0, .int 0, .ref m_firstOrder, .int 0, .ref m_tiredBy, .int 0, .ref m_many, .ref m_width, .ref m_numbers, .ref m_moving])), (m_world, .inl (cA 1, 122, .inl (fun _ => 0)))] [.ref h0, .int p0, .int p1]) (vp_Si (fun r => r = (-1000))) 0 0 (fun _ => False) := by
  refine Met.ofW (cc := cX12_clause) (maxL := 3) (ret := (some .int)) (by decide) rfl ?_
  intro p e s m args below meth c s₁ B hml hv
  obtain ⟨rfl, hP, hKN⟩ := hv
  have hx := B.exec
  have hb := B.bytes
  have hr := B.returns
  have hts : ∀ w ∈ TB, w.before _ s = true := fun w h => atoms_spec B.pre w (List.mem_cons_of_mem _ h)
  have hown : s.vm.findClass RX12 = some m.cls := findClass_of_methodNamed B.named
  have hlocks := B.notSynchronized
  have hl := lv_entry ([.ref h0, .int p0, .int p1]) (n := 3) (Nat.le_of_ble_eq_true rfl)
  rw [lg_entry_eq]
  generalize (lg_sl ([.ref h0, .int p0, .int p1]) ++ List.replicate (3 - (lg_sl ([.ref h0, .int p0, .int p1])).length) Slot.unset).toArray = ls at hl ⊢
  have hl : lv_has ls 3 [(0, .ref h0), (1, .int p0), (2, .int p1)] := hl
  refine lv_aload_n hx hb dX12_clause_0 rfl (lv_at hl 0 rfl) ?_
  refine lv_iload_n hx hb dX12_clause_1 rfl (lv_at hl 1 rfl) ?_
  obtain ⟨x_1, ex_1⟩ : ∃ y, p0.toInt64 = y := ⟨_, rfl⟩
  refine lv_i2l (v := x_1) hx hb dX12_clause_2 ex_1 ?_
  have k_2 := tt_i2l ex_1
  refine cpVi (rest := []) ⟨hx, hb, hml, hown, hts⟩ hKN (hP.sub (ws' := [(h0, .inr (12, [.int 0, .ref m_world, .ref m_images, .ref m_hasImage, .ref m_tape, .int 0, .ref m_five, .int 0, .int 0, .int 0, .int 0, .int 0, .int 0, .int (-1), .ref m_fresh, .int 0, .int 0, .int 0, .int 0, .int 0, .int 0, .ref m_sums, .ref m_pairs, .ref m_goesWith, .ref m_said, .int 0, .int 0, .ref m_firstOrder, .int 0, .ref m_tiredBy, .int 0, .ref m_many, .ref m_width, .ref m_numbers, .ref m_moving])), (m_world, .inl (cA 1, 122, .inl (fun _ => 0)))]) [0, 1] rfl) (k_X12_isClause l D cA h0 m_world m_images m_hasImage m_tape m_five m_fresh m_sums m_pairs m_goesWith m_said m_firstOrder m_tiredBy m_many m_width m_numbers m_moving x_1) (tb_V tw_1648 tw_1650 tw_51 tw_114 tw_1651) hdX12_isClause ⟨rfl, rfl, Nat.le_of_ble_eq_true rfl, Nat.le_of_ble_eq_true rfl⟩ ⟨Nat.le_of_ble_eq_true rfl, Nat.le_of_ble_eq_true rfl⟩ rfl rfl rfl hl.1 rfl (Nat.le_of_ble_eq_true rfl) dX12_clause_3 (fun r_3 hr_3 => ?_)
  obtain rfl : r_3 = 0 := hr_3
  refine lv_if_eq (tgt := 30) hx hb dX12_clause_6 (by decide) (fun c_4 => ?_) (fun c_4 => absurd (by decide) c_4)
  refine lv_sipush (v := (-1000)) hx hb dX12_clause_30 (by decide) ?_
  exact W.iret (v := (-1000)) hx hb hr (fun t ht hW => ⟨(-1000), rfl, rfl, ht⟩) (fun _ h => by cases h) dX12_clause_33
set_option maxHeartbeats 4000000 in
set_option maxRecDepth 100000 in
theorem k_X12_worth (l : Launch) (D : va_G) (cA : Nat → ClassId) (h0 : Nat) (m_world : Nat) (m_images : Nat) (m_hasImage : Nat) (m_tape : Nat) (m_five : Nat) (m_fresh : Nat) (m_sums : Nat) (m_pairs : Nat) (m_goesWith : Nat) (m_said : Nat) (m_firstOrder : Nat) (m_tiredBy : Nat) (m_many : Nat) (m_width : Nat) (m_numbers : Nat) (m_moving : Nat) (p0 : Int32) (p1 : Int32) : Met l yX12_worth (Cond.code yX12_worth cX12_worth 3 (some .int) :: TB) (rmd 2 0 0) (PP D cA [(h0, .inr (12, [.int 0, .ref m_world, .ref m_images, .ref m_hasImage, .ref m_tape, .int 0, .ref m_five, .int 0, .int 0, .int 0, .int 0, .int 0, .int 0, .int (-1), .ref m_fresh, .int 0, .int 0, .int 0, .int 0, .int 0, .int 0, .ref m_sums, .ref m_pairs, .ref m_goesWith, .ref m_said, .int 0, .int 0, .ref m_firstOrder, .int 0, .ref m_tiredBy, .int 0, .ref m_many, .ref m_width, .ref m_numbers, .ref m_moving])), (m_world, .inl (cA 1, 122, .inl (fun _ => 0)))] [.ref h0, .int p0, .int p1]) (vp_Si (fun r => r = (-1000))) 0 0 (fun _ => False) := by
  refine Met.ofW (cc := cX12_worth) (maxL := 3) (ret := (some .int)) (by decide) rfl ?_
  intro p e s m args below meth c s₁ B hml hv
  obtain ⟨rfl, hP, hKN⟩ := hv
  have hx := B.exec
  have hb := B.bytes
  have hr := B.returns
  have hts : ∀ w ∈ TB, w.before _ s = true := fun w h => atoms_spec B.pre w (List.mem_cons_of_mem _ h)
  have hown : s.vm.findClass RX12 = some m.cls := findClass_of_methodNamed B.named
  have hlocks := B.notSynchronized
  have hl := lv_entry ([.ref h0, .int p0, .int p1]) (n := 3) (Nat.le_of_ble_eq_true rfl)
  rw [lg_entry_eq]
  generalize (lg_sl ([.ref h0, .int p0, .int p1]) ++ List.replicate (3 - (lg_sl ([.ref h0, .int p0, .int p1])).length) Slot.unset).toArray = ls at hl ⊢
  have hl : lv_has ls 3 [(0, .ref h0), (1, .int p0), (2, .int p1)] := hl
  refine lv_aload_n hx hb dX12_worth_0 rfl (lv_at hl 0 rfl) ?_
  refine lv_iload_n hx hb dX12_worth_1 rfl (lv_at hl 2 rfl) ?_
  refine cpVi (rest := []) ⟨hx, hb, hml, hown, hts⟩ hKN (hP.sub (ws' := [(h0, .inr (12, [.int 0, .ref m_world, .ref m_images, .ref m_hasImage, .ref m_tape, .int 0, .ref m_five, .int 0, .int 0, .int 0, .int 0, .int 0, .int 0, .int (-1), .ref m_fresh, .int 0, .int 0, .int 0, .int 0, .int 0, .int 0, .ref m_sums, .ref m_pairs, .ref m_goesWith, .ref m_said, .int 0, .int 0, .ref m_firstOrder, .int 0, .ref m_tiredBy, .int 0, .ref m_many, .ref m_width, .ref m_numbers, .ref m_moving])), (m_world, .inl (cA 1, 122, .inl (fun _ => 0)))]) [0, 1] rfl) (k_X12_isSide l D cA h0 m_world m_images m_hasImage m_tape m_five m_fresh m_sums m_pairs m_goesWith m_said m_firstOrder m_tiredBy m_many m_width m_numbers m_moving p1) (tb_V tw_1660 tw_1662 tw_53 tw_114 tw_1663) hdX12_isSide ⟨rfl, rfl, Nat.le_of_ble_eq_true rfl, Nat.le_of_ble_eq_true rfl⟩ ⟨Nat.le_of_ble_eq_true rfl, Nat.le_of_ble_eq_true rfl⟩ rfl rfl rfl hl.1 rfl (Nat.le_of_ble_eq_true rfl) dX12_worth_2 (fun r_1 hr_1 => ?_)
  obtain rfl : r_1 = 0 := hr_1
  refine lv_if_eq (tgt := 31) hx hb dX12_worth_5 (by decide) (fun c_2 => ?_) (fun c_2 => absurd (by decide) c_2)
  refine lv_sipush (v := (-1000)) hx hb dX12_worth_31 (by decide) ?_
  exact W.iret (v := (-1000)) hx hb hr (fun t ht hW => ⟨(-1000), rfl, rfl, ht⟩) (fun _ h => by cases h) dX12_worth_34
set_option maxHeartbeats 4000000 in
set_option maxRecDepth 100000 in
theorem k_X12_now (l : Launch) (D : va_G) (cA : Nat → ClassId) (h0 : Nat) (m_world : Nat) (m_images : Nat) (m_hasImage : Nat) (m_tape : Nat) (m_five : Nat) (m_fresh : Nat) (m_sums : Nat) (m_pairs : Nat) (m_goesWith : Nat) (m_said : Nat) (m_firstOrder : Nat) (m_tiredBy : Nat) (m_many : Nat) (m_width : Nat) (m_numbers : Nat) (m_moving : Nat) (p0 : Int32) : Met l yX12_now (Cond.code yX12_now cX12_now 2 (some .int) :: TB) (rmd 1 0 0) (PP D cA [(h0, .inr (12, [.int 0, .ref m_world, .ref m_images, .ref m_hasImage, .ref m_tape, .int 0, .ref m_five, .int 0, .int 0, .int 0, .int 0, .int 0, .int 0, .int (-1), .ref m_fresh, .int 0, .int 0, .int 0, .int 0, .int 0, .int 0, .ref m_sums, .ref m_pairs, .ref m_goesWith, .ref m_said, .int 0, .int 0, .ref m_firstOrder, .int 0, .ref m_tiredBy, .int 0, .ref m_many, .ref m_width, .ref m_numbers, .ref m_moving])), (m_world, .inl (cA 1, 122, .inl (fun _ => 0)))] [.ref h0, .int p0]) (vp_Si (fun r => r = (-1000))) 0 0 (fun _ => False) := by
  refine Met.ofW (cc := cX12_now) (maxL := 2) (ret := (some .int)) (by decide) rfl ?_
  intro p e s m args below meth c s₁ B hml hv
  obtain ⟨rfl, hP, hKN⟩ := hv
  have hx := B.exec
  have hb := B.bytes
  have hr := B.returns
  have hts : ∀ w ∈ TB, w.before _ s = true := fun w h => atoms_spec B.pre w (List.mem_cons_of_mem _ h)
  have hown : s.vm.findClass RX12 = some m.cls := findClass_of_methodNamed B.named
  have hlocks := B.notSynchronized
  have hl := lv_entry ([.ref h0, .int p0]) (n := 2) (Nat.le_of_ble_eq_true rfl)
  rw [lg_entry_eq]
  generalize (lg_sl ([.ref h0, .int p0]) ++ List.replicate (2 - (lg_sl ([.ref h0, .int p0])).length) Slot.unset).toArray = ls at hl ⊢
  have hl : lv_has ls 2 [(0, .ref h0), (1, .int p0)] := hl
  refine lv_aload_n hx hb dX12_now_0 rfl (lv_at hl 0 rfl) ?_
  refine cpVi (rest := []) ⟨hx, hb, hml, hown, hts⟩ hKN (hP.sub (ws' := [(h0, .inr (12, [.int 0, .ref m_world, .ref m_images, .ref m_hasImage, .ref m_tape, .int 0, .ref m_five, .int 0, .int 0, .int 0, .int 0, .int 0, .int 0, .int (-1), .ref m_fresh, .int 0, .int 0, .int 0, .int 0, .int 0, .int 0, .ref m_sums, .ref m_pairs, .ref m_goesWith, .ref m_said, .int 0, .int 0, .ref m_firstOrder, .int 0, .ref m_tiredBy, .int 0, .ref m_many, .ref m_width, .ref m_numbers, .ref m_moving])), (m_world, .inl (cA 1, 122, .inl (fun _ => 0)))]) [0, 1] rfl) (k_X12_isGorge l D cA h0 m_world m_images m_hasImage m_tape m_five m_fresh m_sums m_pairs m_goesWith m_said m_firstOrder m_tiredBy m_many m_width m_numbers m_moving) (tb_V tw_1664 tw_1666 tw_54 tw_114 tw_1667) hdX12_isGorge ⟨rfl, rfl, Nat.le_of_ble_eq_true rfl, Nat.le_of_ble_eq_true rfl⟩ ⟨Nat.le_of_ble_eq_true rfl, Nat.le_of_ble_eq_true rfl⟩ rfl rfl rfl hl.1 rfl (Nat.le_of_ble_eq_true rfl) dX12_now_1 (fun r_1 hr_1 => ?_)
  obtain rfl : r_1 = 0 := hr_1
  refine lv_if_eq (tgt := 19) hx hb dX12_now_4 (by decide) (fun c_2 => ?_) (fun c_2 => absurd (by decide) c_2)
  refine lv_sipush (v := (-1000)) hx hb dX12_now_19 (by decide) ?_
  exact W.iret (v := (-1000)) hx hb hr (fun t ht hW => ⟨(-1000), rfl, rfl, ht⟩) (fun _ h => by cases h) dX12_now_22
set_option maxHeartbeats 4000000 in
set_option maxRecDepth 100000 in
theorem k_X12_chance (l : Launch) (D : va_G) (cA : Nat → ClassId) (h0 : Nat) (m_world : Nat) (m_images : Nat) (m_hasImage : Nat) (m_tape : Nat) (m_five : Nat) (m_fresh : Nat) (m_sums : Nat) (m_pairs : Nat) (m_goesWith : Nat) (m_said : Nat) (m_firstOrder : Nat) (m_tiredBy : Nat) (m_many : Nat) (m_width : Nat) (m_numbers : Nat) (m_moving : Nat) (p0 : Int32) (p1 : Int32) (p2 : Int32) (p3 : Int32) : Met l yX12_chance (Cond.code yX12_chance cX12_chance 5 (some .long) :: TB) (rmd 3 0 0) (PP D cA [(h0, .inr (12, [.int 0, .ref m_world, .ref m_images, .ref m_hasImage, .ref m_tape, .int 0, .ref m_five, .int 0, .int 0, .int 0, .int 0, .int 0, .int 0, .int (-1), .ref m_fresh, .int 0, .int 0, .int 0, .int 0, .int 0, .int 0, .ref m_sums, .ref m_pairs, .ref m_goesWith, .ref m_said, .int 0, .int 0, .ref m_firstOrder, .int 0, .ref m_tiredBy, .int 0, .ref m_many, .ref m_width, .ref m_numbers, .ref m_moving])), (m_world, .inl (cA 1, 122, .inl (fun _ => 0)))] [.ref h0, .int p0, .int p1, .int p2, .int p3]) (vp_Sl (fun r => r = (-2))) 0 0 (fun _ => False) := by
  refine Met.ofW (cc := cX12_chance) (maxL := 5) (ret := (some .long)) (by decide) rfl ?_
  intro p e s m args below meth c s₁ B hml hv
  obtain ⟨rfl, hP, hKN⟩ := hv
  have hx := B.exec
  have hb := B.bytes
  have hr := B.returns
  have hts : ∀ w ∈ TB, w.before _ s = true := fun w h => atoms_spec B.pre w (List.mem_cons_of_mem _ h)
  have hown : s.vm.findClass RX12 = some m.cls := findClass_of_methodNamed B.named
  have hlocks := B.notSynchronized
  have hl := lv_entry ([.ref h0, .int p0, .int p1, .int p2, .int p3]) (n := 5) (Nat.le_of_ble_eq_true rfl)
  rw [lg_entry_eq]
  generalize (lg_sl ([.ref h0, .int p0, .int p1, .int p2, .int p3]) ++ List.replicate (5 - (lg_sl ([.ref h0, .int p0, .int p1, .int p2, .int p3])).length) Slot.unset).toArray = ls at hl ⊢
  have hl : lv_has ls 5 [(0, .ref h0), (1, .int p0), (2, .int p1), (3, .int p2), (4, .int p3)] := hl
  refine lv_aload_n hx hb dX12_chance_0 rfl (lv_at hl 0 rfl) ?_
  refine lv_iload_n hx hb dX12_chance_1 rfl (lv_at hl 1 rfl) ?_
  refine lv_iload_n hx hb dX12_chance_2 rfl (lv_at hl 2 rfl) ?_
  refine cpVi (rest := []) ⟨hx, hb, hml, hown, hts⟩ hKN (hP.sub (ws' := [(h0, .inr (12, [.int 0, .ref m_world, .ref m_images, .ref m_hasImage, .ref m_tape, .int 0, .ref m_five, .int 0, .int 0, .int 0, .int 0, .int 0, .int 0, .int (-1), .ref m_fresh, .int 0, .int 0, .int 0, .int 0, .int 0, .int 0, .ref m_sums, .ref m_pairs, .ref m_goesWith, .ref m_said, .int 0, .int 0, .ref m_firstOrder, .int 0, .ref m_tiredBy, .int 0, .ref m_many, .ref m_width, .ref m_numbers, .ref m_moving])), (m_world, .inl (cA 1, 122, .inl (fun _ => 0)))]) [0, 1] rfl) (k_X12_areMen l D cA h0 m_world m_images m_hasImage m_tape m_five m_fresh m_sums m_pairs m_goesWith m_said m_firstOrder m_tiredBy m_many m_width m_numbers m_moving p0 p1) (tb_V tw_1771 tw_1773 tw_68 tw_114 tw_1774) hdX12_areMen ⟨rfl, rfl, Nat.le_of_ble_eq_true rfl, Nat.le_of_ble_eq_true rfl⟩ ⟨Nat.le_of_ble_eq_true rfl, Nat.le_of_ble_eq_true rfl⟩ rfl rfl rfl hl.1 rfl (Nat.le_of_ble_eq_true rfl) dX12_chance_3 (fun r_1 hr_1 => ?_)
  obtain rfl : r_1 = 0 := hr_1
  refine lv_if_eq (tgt := 32) hx hb dX12_chance_6 (by decide) (fun c_2 => ?_) (fun c_2 => absurd (by decide) c_2)
  refine lv_ldc2 (v := (-2)) hx hb hown (hts _ tw_2044) dX12_chance_32 ?_
  exact W.lret (v := (-2)) hx hb hr (fun t ht hW => ⟨(-2), rfl, rfl, ht⟩) (fun _ h => by cases h) dX12_chance_35
set_option maxHeartbeats 4000000 in
set_option maxRecDepth 100000 in
theorem k_X12_mean (l : Launch) (D : va_G) (cA : Nat → ClassId) (h0 : Nat) (m_world : Nat) (m_images : Nat) (m_hasImage : Nat) (m_tape : Nat) (m_five : Nat) (m_fresh : Nat) (m_sums : Nat) (m_pairs : Nat) (m_goesWith : Nat) (m_said : Nat) (m_firstOrder : Nat) (m_tiredBy : Nat) (m_many : Nat) (m_width : Nat) (m_numbers : Nat) (m_moving : Nat) (p0 : Int32) (p1 : Int32) (p2 : Int32) : Met l yX12_mean (Cond.code yX12_mean cX12_mean 8 (some .long) :: TB) (rmd 3 0 0) (PP D cA [(h0, .inr (12, [.int 0, .ref m_world, .ref m_images, .ref m_hasImage, .ref m_tape, .int 0, .ref m_five, .int 0, .int 0, .int 0, .int 0, .int 0, .int 0, .int (-1), .ref m_fresh, .int 0, .int 0, .int 0, .int 0, .int 0, .int 0, .ref m_sums, .ref m_pairs, .ref m_goesWith, .ref m_said, .int 0, .int 0, .ref m_firstOrder, .int 0, .ref m_tiredBy, .int 0, .ref m_many, .ref m_width, .ref m_numbers, .ref m_moving])), (m_world, .inl (cA 1, 122, .inl (fun _ => 0)))] [.ref h0, .int p0, .int p1, .int p2]) (vp_Sl (fun r => r = (-2))) 0 0 (fun _ => False) := by
  refine Met.ofW (cc := cX12_mean) (maxL := 8) (ret := (some .long)) (by decide) rfl ?_
  intro p e s m args below meth c s₁ B hml hv
  obtain ⟨rfl, hP, hKN⟩ := hv
  have hx := B.exec
  have hb := B.bytes
  have hr := B.returns
  have hts : ∀ w ∈ TB, w.before _ s = true := fun w h => atoms_spec B.pre w (List.mem_cons_of_mem _ h)
  have hown : s.vm.findClass RX12 = some m.cls := findClass_of_methodNamed B.named
  have hlocks := B.notSynchronized
  have hl := lv_entry ([.ref h0, .int p0, .int p1, .int p2]) (n := 8) (Nat.le_of_ble_eq_true rfl)
  rw [lg_entry_eq]
  generalize (lg_sl ([.ref h0, .int p0, .int p1, .int p2]) ++ List.replicate (8 - (lg_sl ([.ref h0, .int p0, .int p1, .int p2])).length) Slot.unset).toArray = ls at hl ⊢
  have hl : lv_has ls 8 [(0, .ref h0), (1, .int p0), (2, .int p1), (3, .int p2)] := hl
  refine lv_aload_n hx hb dX12_mean_0 rfl (lv_at hl 0 rfl) ?_
  refine lv_iload_n hx hb dX12_mean_1 rfl (lv_at hl 1 rfl) ?_
  refine lv_iload_n hx hb dX12_mean_2 rfl (lv_at hl 2 rfl) ?_
  refine cpVi (rest := []) ⟨hx, hb, hml, hown, hts⟩ hKN (hP.sub (ws' := [(h0, .inr (12, [.int 0, .ref m_world, .ref m_images, .ref m_hasImage, .ref m_tape, .int 0, .ref m_five, .int 0, .int 0, .int 0, .int 0, .int 0, .int 0, .int (-1), .ref m_fresh, .int 0, .int 0, .int 0, .int 0, .int 0, .int 0, .ref m_sums, .ref m_pairs, .ref m_goesWith, .ref m_said, .int 0, .int 0, .ref m_firstOrder, .int 0, .ref m_tiredBy, .int 0, .ref m_many, .ref m_width, .ref m_numbers, .ref m_moving])), (m_world, .inl (cA 1, 122, .inl (fun _ => 0)))]) [0, 1] rfl) (k_X12_areMen l D cA h0 m_world m_images m_hasImage m_tape m_five m_fresh m_sums m_pairs m_goesWith m_said m_firstOrder m_tiredBy m_many m_width m_numbers m_moving p0 p1) (tb_V tw_1771 tw_1773 tw_68 tw_114 tw_1774) hdX12_areMen ⟨rfl, rfl, Nat.le_of_ble_eq_true rfl, Nat.le_of_ble_eq_true rfl⟩ ⟨Nat.le_of_ble_eq_true rfl, Nat.le_of_ble_eq_true rfl⟩ rfl rfl rfl hl.1 rfl (Nat.le_of_ble_eq_true rfl) dX12_mean_3 (fun r_1 hr_1 => ?_)
  obtain rfl : r_1 = 0 := hr_1
  refine lv_if_eq (tgt := 19) hx hb dX12_mean_6 (by decide) (fun c_2 => ?_) (fun c_2 => absurd (by decide) c_2)
  refine lv_ldc2 (v := (-2)) hx hb hown (hts _ tw_2044) dX12_mean_19 ?_
  exact W.lret (v := (-2)) hx hb hr (fun t ht hW => ⟨(-2), rfl, rfl, ht⟩) (fun _ h => by cases h) dX12_mean_22
set_option maxHeartbeats 4000000 in
set_option maxRecDepth 100000 in
theorem k_X12_fault (l : Launch) (D : va_G) (cA : Nat → ClassId) (h0 : Nat) (m_world : Nat) (m_images : Nat) (m_hasImage : Nat) (m_tape : Nat) (m_five : Nat) (m_fresh : Nat) (m_sums : Nat) (m_pairs : Nat) (m_goesWith : Nat) (m_said : Nat) (m_firstOrder : Nat) (m_tiredBy : Nat) (m_many : Nat) (m_width : Nat) (m_numbers : Nat) (m_moving : Nat) (p0 : Int32) : Met l yX12_fault (Cond.code yX12_fault cX12_fault 2 (some .int) :: TB) (rmd 0 0 0) (PP D cA [(h0, .inr (12, [.int 0, .ref m_world, .ref m_images, .ref m_hasImage, .ref m_tape, .int 0, .ref m_five, .int 0, .int 0, .int 0, .int 0, .int 0, .int 0, .int (-1), .ref m_fresh, .int 0, .int 0, .int 0, .int 0, .int 0, .int 0, .ref m_sums, .ref m_pairs, .ref m_goesWith, .ref m_said, .int 0, .int 0, .ref m_firstOrder, .int 0, .ref m_tiredBy, .int 0, .ref m_many, .ref m_width, .ref m_numbers, .ref m_moving]))] [.ref h0, .int p0]) (vp_Si (fun r => ((p0 : Int32).toInt = 0) ∧ r = 0 ∨ ((p0 : Int32).toInt ≠ 0) ∧ r = (-1))) 0 0 (fun _ => False) := by
  refine Met.ofW (cc := cX12_fault) (maxL := 2) (ret := (some .int)) (by decide) rfl ?_
  intro p e s m args below meth c s₁ B hml hv
  obtain ⟨rfl, hP, hKN⟩ := hv
  have hx := B.exec
  have hb := B.bytes
  have hr := B.returns
  have hts : ∀ w ∈ TB, w.before _ s = true := fun w h => atoms_spec B.pre w (List.mem_cons_of_mem _ h)
  have hown : s.vm.findClass RX12 = some m.cls := findClass_of_methodNamed B.named
  have hlocks := B.notSynchronized
  have hl := lv_entry ([.ref h0, .int p0]) (n := 2) (Nat.le_of_ble_eq_true rfl)
  rw [lg_entry_eq]
  generalize (lg_sl ([.ref h0, .int p0]) ++ List.replicate (2 - (lg_sl ([.ref h0, .int p0])).length) Slot.unset).toArray = ls at hl ⊢
  have hl : lv_has ls 2 [(0, .ref h0), (1, .int p0)] := hl
  refine lv_iload_n hx hb dX12_fault_0 rfl (lv_at hl 1 rfl) ?_
  refine lv_if_ne (tgt := 11) hx hb dX12_fault_1 (by decide) (fun c_1 => ?_) (fun c_1 => ?_)
  · skip
    have k_2 := tt_ne c_1
    refine lv_iload_n hx hb dX12_fault_11 rfl (lv_at hl 1 rfl) ?_
    refine lv_iconst (v := 1) hx hb dX12_fault_12 (by decide) ?_
    refine lv_icmp_ne (tgt := 23) hx hb dX12_fault_13 (by decide) (fun c_3 => ?_) (fun c_3 => ?_)
    · skip
      have k_4 := tt_ne c_3
      refine lv_iconst (v := (-1)) hx hb dX12_fault_23 (by decide) ?_
      exact W.iret (v := (-1)) hx hb hr (fun t ht hW => ⟨(-1), rfl, (Or.inr ⟨(by have zi_0 : (0 : Int32).toInt = 0 := (by decide); have zi_1 : (1 : Int32).toInt = 1 := (by decide); omega), rfl⟩), ht⟩) (fun _ h => by cases h) dX12_fault_24
    · skip
      have k_5 := tt_eq c_3
      refine lv_aload_n hx hb dX12_fault_16 rfl (lv_at hl 0 rfl) ?_
      refine va_get (D := D) (ci := 12) (v := .int (-1)) (C := RX12) (T := TX12) (N := 35) hx hb hts inX12 hown hKN.1 hP 0 rfl rfl 13 (by decide) (hts _ tw_1432) (fun _ h9 => h9) rfl dX12_fault_17 ?_
      refine lv_goto (tgt := 24) hx hb dX12_fault_20 (by decide) ?_
      exact W.iret (v := (-1)) hx hb hr (fun t ht hW => ⟨(-1), rfl, (Or.inr ⟨(by have zi_0 : (0 : Int32).toInt = 0 := (by decide); have zi_1 : (1 : Int32).toInt = 1 := (by decide); omega), rfl⟩), ht⟩) (fun _ h => by cases h) dX12_fault_24
  · skip
    have k_6 := tt_eq c_1
    refine lv_aload_n hx hb dX12_fault_4 rfl (lv_at hl 0 rfl) ?_
    refine va_get (D := D) (ci := 12) (v := .int 0) (C := RX12) (T := TX12) (N := 35) hx hb hts inX12 hown hKN.1 hP 0 rfl rfl 12 (by decide) (hts _ tw_1431) (fun _ h9 => h9) rfl dX12_fault_5 ?_
    refine lv_goto (tgt := 24) hx hb dX12_fault_8 (by decide) ?_
    exact W.iret (v := 0) hx hb hr (fun t ht hW => ⟨0, rfl, (Or.inl ⟨(by have zi_0 : (0 : Int32).toInt = 0 := (by decide); omega), rfl⟩), ht⟩) (fun _ h => by cases h) dX12_fault_24
set_option maxHeartbeats 4000000 in
set_option maxRecDepth 100000 in
theorem k_X12_count (l : Launch) (D : va_G) (cA : Nat → ClassId) (h0 : Nat) (m_world : Nat) (m_images : Nat) (m_hasImage : Nat) (m_tape : Nat) (m_five : Nat) (m_fresh : Nat) (m_sums : Nat) (m_pairs : Nat) (m_goesWith : Nat) (m_said : Nat) (m_firstOrder : Nat) (m_tiredBy : Nat) (m_many : Nat) (m_width : Nat) (m_numbers : Nat) (m_moving : Nat) (p0 : Int32) : Met l yX12_count (Cond.code yX12_count cX12_count 4 (some .int) :: TB) (rmd 1 0 0) (PP D cA [(h0, .inr (12, [.int 0, .ref m_world, .ref m_images, .ref m_hasImage, .ref m_tape, .int 0, .ref m_five, .int 0, .int 0, .int 0, .int 0, .int 0, .int 0, .int (-1), .ref m_fresh, .int 0, .int 0, .int 0, .int 0, .int 0, .int 0, .ref m_sums, .ref m_pairs, .ref m_goesWith, .ref m_said, .int 0, .int 0, .ref m_firstOrder, .int 0, .ref m_tiredBy, .int 0, .ref m_many, .ref m_width, .ref m_numbers, .ref m_moving])), (m_world, .inl (cA 1, 122, .inl (fun _ => 0))), (m_many, .inl (cA 1, 4, .inl (fun _ => (-1))))] [.ref h0, .int p0]) (vp_Si (fun r => (0 ≤ (p0 : Int32).toInt ∧ (p0 : Int32).toInt ≤ 10) ∧ r = 0 ∨ ((p0 : Int32).toInt < 0 ∨ 10 < (p0 : Int32).toInt) ∧ r = (-1))) 0 0 (fun _ => False) := by
  refine Met.ofW (cc := cX12_count) (maxL := 4) (ret := (some .int)) (by decide) rfl ?_
  intro p e s m args below meth c s₁ B hml hv
  obtain ⟨rfl, hP, hKN⟩ := hv
  have hx := B.exec
  have hb := B.bytes
  have hr := B.returns
  have hts : ∀ w ∈ TB, w.before _ s = true := fun w h => atoms_spec B.pre w (List.mem_cons_of_mem _ h)
  have hown : s.vm.findClass RX12 = some m.cls := findClass_of_methodNamed B.named
  have hlocks := B.notSynchronized
  have hl := lv_entry ([.ref h0, .int p0]) (n := 4) (Nat.le_of_ble_eq_true rfl)
  rw [lg_entry_eq]
  generalize (lg_sl ([.ref h0, .int p0]) ++ List.replicate (4 - (lg_sl ([.ref h0, .int p0])).length) Slot.unset).toArray = ls at hl ⊢
  have hl : lv_has ls 4 [(0, .ref h0), (1, .int p0)] := hl
  refine lv_iload_n hx hb dX12_count_0 rfl (lv_at hl 1 rfl) ?_
  obtain ⟨x_1, ex_1⟩ : ∃ y, p0.toInt64 = y := ⟨_, rfl⟩
  refine lv_i2l (v := x_1) hx hb dX12_count_1 ex_1 ?_
  have k_2 := tt_i2l ex_1
  refine lv_lconst (v := 0) hx hb dX12_count_2 (by decide) ?_
  refine lv_ldc2 (v := 8) hx hb hown (hts _ tw_2136) dX12_count_3 ?_
  refine cpSi (rest := []) ⟨hx, hb, hml, hown, hts⟩ hKN (hP.sub (ws' := []) [] rfl) (k_X12_in l D cA x_1 0 8) (tb_S tw_1530 tw_1531 tw_114 tw_1532) hdX12_in ⟨rfl, rfl, Nat.le_of_ble_eq_true rfl, Nat.le_of_ble_eq_true rfl⟩ ⟨Nat.le_of_ble_eq_true rfl, Nat.le_of_ble_eq_true rfl⟩ rfl hl.1 rfl (Nat.le_of_ble_eq_true rfl) dX12_count_6 (fun r_3 hr_3 => ?_)
  rcases hr_3 with ⟨k_3_0, rfl⟩ | ⟨k_3_1, rfl⟩
  · skip
    refine lv_if_eq (tgt := 19) hx hb dX12_count_9 (by decide) (fun c_4 => absurd c_4 (by decide)) (fun c_4 => ?_)
    refine lv_aload_n hx hb dX12_count_12 rfl (lv_at hl 0 rfl) ?_
    refine va_get (D := D) (ci := 12) (v := .ref m_world) (C := RX12) (T := TX12) (N := 35) hx hb hts inX12 hown hKN.1 hP 0 rfl rfl 1 (by decide) (hts _ tw_1420) (fun _ h9 => h9) rfl dX12_count_13 ?_
    refine lv_iload_n hx hb dX12_count_16 rfl (lv_at hl 1 rfl) ?_
    refine va_iald hx hb hKN.1 hP 1 1 rfl rfl (vp_in_iff.mpr ⟨by have zj_0 : (0 : Int64).toInt = 0 := (by decide); have zj_8 : (8 : Int64).toInt = 8 := (by decide); omega, by have zj_0 : (0 : Int64).toInt = 0 := (by decide); have zj_8 : (8 : Int64).toInt = 8 := (by decide); omega⟩) dX12_count_17 ?_
    refine lv_topi (fun x_5 ex_5 => ?_)
    obtain rfl : x_5 = 0 := ex_5
    exact W.iret (v := 0) hx hb hr (fun t ht hW => ⟨0, rfl, (Or.inl ⟨(by have zj_0 : (0 : Int64).toInt = 0 := (by decide); have zj_8 : (8 : Int64).toInt = 8 := (by decide); omega), rfl⟩), ht⟩) (fun _ h => by cases h) dX12_count_18
  · skip
    refine lv_if_eq (tgt := 19) hx hb dX12_count_9 (by decide) (fun c_6 => ?_) (fun c_6 => absurd (by decide) c_6)
    refine lv_iload_n hx hb dX12_count_19 rfl (lv_at hl 1 rfl) ?_
    refine lv_bipush (v := 9) hx hb dX12_count_20 (by decide) ?_
    refine lv_icmp_ne (tgt := 30) hx hb dX12_count_22 (by decide) (fun c_7 => ?_) (fun c_7 => ?_)
    · skip
      have k_8 := tt_ne c_7
      refine lv_iload_n hx hb dX12_count_30 rfl (lv_at hl 1 rfl) ?_
      refine lv_bipush (v := 10) hx hb dX12_count_31 (by decide) ?_
      refine lv_icmp_eq (tgt := 38) hx hb dX12_count_33 (by decide) (fun c_9 => ?_) (fun c_9 => ?_)
      · skip
        have k_10 := tt_eq c_9
        refine lv_iconst (v := 0) hx hb dX12_count_38 (by decide) ?_
        refine lv_istore_n (lv' := [(2, .int 0), (0, .ref h0), (1, .int p0)]) hx hb dX12_count_39 rfl hl (by decide) rfl (fun ls hl => ?_)
        refine lv_iconst (v := 0) hx hb dX12_count_40 (by decide) ?_
        refine lv_istore_n (lv' := [(3, .int 0), (2, .int 0), (0, .ref h0), (1, .int p0)]) hx hb dX12_count_41 rfl hl (by decide) rfl (fun ls hl => ?_)
        refine lv_iload_n hx hb dX12_count_42 rfl (lv_at hl 0 rfl) ?_
        refine lv_iconst (v := 4) hx hb dX12_count_43 (by decide) ?_
        refine lv_icmp_ge (tgt := 71) hx hb dX12_count_44 (by decide) (fun c_11 => absurd c_11 (by decide)) (fun c_11 => ?_)
        refine lv_iload_n hx hb dX12_count_47 rfl (lv_at hl 1 rfl) ?_
        refine lv_aload_n hx hb dX12_count_48 rfl (lv_at hl 2 rfl) ?_
        refine va_get (D := D) (ci := 12) (v := .ref m_many) (C := RX12) (T := TX12) (N := 35) hx hb hts inX12 hown hKN.1 hP 0 rfl rfl 31 (by decide) (hts _ tw_1450) (fun _ h9 => h9) rfl dX12_count_49 ?_
        refine lv_iload_n hx hb dX12_count_52 rfl (lv_at hl 0 rfl) ?_
        refine va_iald hx hb hKN.1 hP 2 1 rfl rfl (by unfold vp_in; decide) dX12_count_53 ?_
        refine lv_topi (fun x_12 ex_12 => ?_)
        obtain rfl : x_12 = (-1) := ex_12
        refine lv_iconst (v := (-1)) hx hb dX12_count_54 (by decide) ?_
        refine lv_icmp_ne (tgt := 62) hx hb dX12_count_55 (by decide) (fun c_13 => absurd (by decide) c_13) (fun c_13 => ?_)
        refine lv_iconst (v := 0) hx hb dX12_count_58 (by decide) ?_
        refine lv_goto (tgt := 63) hx hb dX12_count_59 (by decide) ?_
        refine lv_iadd hx hb dX12_count_63 ?_
        refine lv_topi (fun x_14 ex_14 => ?_)
        obtain rfl : x_14 = 0 := ex_14.trans (by decide)
        refine lv_istore_n (lv' := [(2, .int 0), (3, .int 0), (0, .ref h0), (1, .int p0)]) hx hb dX12_count_64 rfl hl (by decide) rfl (fun ls hl => ?_)
        refine lv_iinc (v := 1) (lv' := [(3, .int 1), (2, .int 0), (0, .ref h0), (1, .int p0)]) hx hb dX12_count_65 hl (k := 1) rfl (by decide) (by decide) rfl (fun ls hl => ?_)
        refine lv_goto (tgt := 42) hx hb dX12_count_68 (by decide) ?_
        refine lv_iload_n hx hb dX12_count_42 rfl (lv_at hl 0 rfl) ?_
        refine lv_iconst (v := 4) hx hb dX12_count_43 (by decide) ?_
        refine lv_icmp_ge (tgt := 71) hx hb dX12_count_44 (by decide) (fun c_15 => absurd c_15 (by decide)) (fun c_15 => ?_)
        refine lv_iload_n hx hb dX12_count_47 rfl (lv_at hl 1 rfl) ?_
        refine lv_aload_n hx hb dX12_count_48 rfl (lv_at hl 2 rfl) ?_
        refine va_get (D := D) (ci := 12) (v := .ref m_many) (C := RX12) (T := TX12) (N := 35) hx hb hts inX12 hown hKN.1 hP 0 rfl rfl 31 (by decide) (hts _ tw_1450) (fun _ h9 => h9) rfl dX12_count_49 ?_
        refine lv_iload_n hx hb dX12_count_52 rfl (lv_at hl 0 rfl) ?_
        refine va_iald hx hb hKN.1 hP 2 1 rfl rfl (by unfold vp_in; decide) dX12_count_53 ?_
        refine lv_topi (fun x_16 ex_16 => ?_)
        obtain rfl : x_16 = (-1) := ex_16
        refine lv_iconst (v := (-1)) hx hb dX12_count_54 (by decide) ?_
        refine lv_icmp_ne (tgt := 62) hx hb dX12_count_55 (by decide) (fun c_17 => absurd (by decide) c_17) (fun c_17 => ?_)
        refine lv_iconst (v := 0) hx hb dX12_count_58 (by decide) ?_
        refine lv_goto (tgt := 63) hx hb dX12_count_59 (by decide) ?_
        refine lv_iadd hx hb dX12_count_63 ?_
        refine lv_topi (fun x_18 ex_18 => ?_)
        obtain rfl : x_18 = 0 := ex_18.trans (by decide)
        refine lv_istore_n (lv' := [(2, .int 0), (3, .int 1), (0, .ref h0), (1, .int p0)]) hx hb dX12_count_64 rfl hl (by decide) rfl (fun ls hl => ?_)
        refine lv_iinc (v := 2) (lv' := [(3, .int 2), (2, .int 0), (0, .ref h0), (1, .int p0)]) hx hb dX12_count_65 hl (k := 1) rfl (by decide) (by decide) rfl (fun ls hl => ?_)
        refine lv_goto (tgt := 42) hx hb dX12_count_68 (by decide) ?_
        refine lv_iload_n hx hb dX12_count_42 rfl (lv_at hl 0 rfl) ?_
        refine lv_iconst (v := 4) hx hb dX12_count_43 (by decide) ?_
        refine lv_icmp_ge (tgt := 71) hx hb dX12_count_44 (by decide) (fun c_19 => absurd c_19 (by decide)) (fun c_19 => ?_)
        refine lv_iload_n hx hb dX12_count_47 rfl (lv_at hl 1 rfl) ?_
        refine lv_aload_n hx hb dX12_count_48 rfl (lv_at hl 2 rfl) ?_
        refine va_get (D := D) (ci := 12) (v := .ref m_many) (C := RX12) (T := TX12) (N := 35) hx hb hts inX12 hown hKN.1 hP 0 rfl rfl 31 (by decide) (hts _ tw_1450) (fun _ h9 => h9) rfl dX12_count_49 ?_
        refine lv_iload_n hx hb dX12_count_52 rfl (lv_at hl 0 rfl) ?_
        refine va_iald hx hb hKN.1 hP 2 1 rfl rfl (by unfold vp_in; decide) dX12_count_53 ?_
        refine lv_topi (fun x_20 ex_20 => ?_)
        obtain rfl : x_20 = (-1) := ex_20
        refine lv_iconst (v := (-1)) hx hb dX12_count_54 (by decide) ?_
        refine lv_icmp_ne (tgt := 62) hx hb dX12_count_55 (by decide) (fun c_21 => absurd (by decide) c_21) (fun c_21 => ?_)
        refine lv_iconst (v := 0) hx hb dX12_count_58 (by decide) ?_
        refine lv_goto (tgt := 63) hx hb dX12_count_59 (by decide) ?_
        refine lv_iadd hx hb dX12_count_63 ?_
        refine lv_topi (fun x_22 ex_22 => ?_)
        obtain rfl : x_22 = 0 := ex_22.trans (by decide)
        refine lv_istore_n (lv' := [(2, .int 0), (3, .int 2), (0, .ref h0), (1, .int p0)]) hx hb dX12_count_64 rfl hl (by decide) rfl (fun ls hl => ?_)
        refine lv_iinc (v := 3) (lv' := [(3, .int 3), (2, .int 0), (0, .ref h0), (1, .int p0)]) hx hb dX12_count_65 hl (k := 1) rfl (by decide) (by decide) rfl (fun ls hl => ?_)
        refine lv_goto (tgt := 42) hx hb dX12_count_68 (by decide) ?_
        refine lv_iload_n hx hb dX12_count_42 rfl (lv_at hl 0 rfl) ?_
        refine lv_iconst (v := 4) hx hb dX12_count_43 (by decide) ?_
        refine lv_icmp_ge (tgt := 71) hx hb dX12_count_44 (by decide) (fun c_23 => absurd c_23 (by decide)) (fun c_23 => ?_)
        refine lv_iload_n hx hb dX12_count_47 rfl (lv_at hl 1 rfl) ?_
        refine lv_aload_n hx hb dX12_count_48 rfl (lv_at hl 2 rfl) ?_
        refine va_get (D := D) (ci := 12) (v := .ref m_many) (C := RX12) (T := TX12) (N := 35) hx hb hts inX12 hown hKN.1 hP 0 rfl rfl 31 (by decide) (hts _ tw_1450) (fun _ h9 => h9) rfl dX12_count_49 ?_
        refine lv_iload_n hx hb dX12_count_52 rfl (lv_at hl 0 rfl) ?_
        refine va_iald hx hb hKN.1 hP 2 1 rfl rfl (by unfold vp_in; decide) dX12_count_53 ?_
        refine lv_topi (fun x_24 ex_24 => ?_)
        obtain rfl : x_24 = (-1) := ex_24
        refine lv_iconst (v := (-1)) hx hb dX12_count_54 (by decide) ?_
        refine lv_icmp_ne (tgt := 62) hx hb dX12_count_55 (by decide) (fun c_25 => absurd (by decide) c_25) (fun c_25 => ?_)
        refine lv_iconst (v := 0) hx hb dX12_count_58 (by decide) ?_
        refine lv_goto (tgt := 63) hx hb dX12_count_59 (by decide) ?_
        refine lv_iadd hx hb dX12_count_63 ?_
        refine lv_topi (fun x_26 ex_26 => ?_)
        obtain rfl : x_26 = 0 := ex_26.trans (by decide)
        refine lv_istore_n (lv' := [(2, .int 0), (3, .int 3), (0, .ref h0), (1, .int p0)]) hx hb dX12_count_64 rfl hl (by decide) rfl (fun ls hl => ?_)
        refine lv_iinc (v := 4) (lv' := [(3, .int 4), (2, .int 0), (0, .ref h0), (1, .int p0)]) hx hb dX12_count_65 hl (k := 1) rfl (by decide) (by decide) rfl (fun ls hl => ?_)
        refine lv_goto (tgt := 42) hx hb dX12_count_68 (by decide) ?_
        refine lv_iload_n hx hb dX12_count_42 rfl (lv_at hl 0 rfl) ?_
        refine lv_iconst (v := 4) hx hb dX12_count_43 (by decide) ?_
        refine lv_icmp_ge (tgt := 71) hx hb dX12_count_44 (by decide) (fun c_27 => ?_) (fun c_27 => absurd (by decide) c_27)
        refine lv_iload_n hx hb dX12_count_71 rfl (lv_at hl 1 rfl) ?_
        exact W.iret (v := 0) hx hb hr (fun t ht hW => ⟨0, rfl, (Or.inl ⟨(by have zi_9 : (9 : Int32).toInt = 9 := (by decide); have zi_10 : (10 : Int32).toInt = 10 := (by decide); have zj_0 : (0 : Int64).toInt = 0 := (by decide); have zj_8 : (8 : Int64).toInt = 8 := (by decide); omega), rfl⟩), ht⟩) (fun _ h => by cases h) dX12_count_72
      · skip
        have k_28 := tt_ne c_9
        refine lv_iconst (v := (-1)) hx hb dX12_count_36 (by decide) ?_
        exact W.iret (v := (-1)) hx hb hr (fun t ht hW => ⟨(-1), rfl, (Or.inr ⟨(by have zi_9 : (9 : Int32).toInt = 9 := (by decide); have zi_10 : (10 : Int32).toInt = 10 := (by decide); have zj_0 : (0 : Int64).toInt = 0 := (by decide); have zj_8 : (8 : Int64).toInt = 8 := (by decide); omega), rfl⟩), ht⟩) (fun _ h => by cases h) dX12_count_37
    · skip
      have k_29 := tt_eq c_7
      refine lv_aload_n hx hb dX12_count_25 rfl (lv_at hl 0 rfl) ?_
      refine va_get (D := D) (ci := 12) (v := .int 0) (C := RX12) (T := TX12) (N := 35) hx hb hts inX12 hown hKN.1 hP 0 rfl rfl 5 (by decide) (hts _ tw_1424) (fun _ h9 => h9) rfl dX12_count_26 ?_
      exact W.iret (v := 0) hx hb hr (fun t ht hW => ⟨0, rfl, (Or.inl ⟨(by have zi_9 : (9 : Int32).toInt = 9 := (by decide); have zj_0 : (0 : Int64).toInt = 0 := (by decide); have zj_8 : (8 : Int64).toInt = 8 := (by decide); omega), rfl⟩), ht⟩) (fun _ h => by cases h) dX12_count_29
set_option maxHeartbeats 4000000 in
set_option maxRecDepth 100000 in
theorem k_X12_back (l : Launch) (D : va_G) (cA : Nat → ClassId) (h0 : Nat) (m_world : Nat) (m_images : Nat) (m_hasImage : Nat) (m_tape : Nat) (m_five : Nat) (m_fresh : Nat) (m_sums : Nat) (m_pairs : Nat) (m_goesWith : Nat) (m_said : Nat) (m_firstOrder : Nat) (m_tiredBy : Nat) (m_many : Nat) (m_width : Nat) (m_numbers : Nat) (m_moving : Nat) (p0 : Int32) : Met l yX12_back (Cond.code yX12_back cX12_back 3 (some .int) :: TB) (rmd 1 0 0) (PP D cA [(h0, .inr (12, [.int 0, .ref m_world, .ref m_images, .ref m_hasImage, .ref m_tape, .int 0, .ref m_five, .int 0, .int 0, .int 0, .int 0, .int 0, .int 0, .int (-1), .ref m_fresh, .int 0, .int 0, .int 0, .int 0, .int 0, .int 0, .ref m_sums, .ref m_pairs, .ref m_goesWith, .ref m_said, .int 0, .int 0, .ref m_firstOrder, .int 0, .ref m_tiredBy, .int 0, .ref m_many, .ref m_width, .ref m_numbers, .ref m_moving])), (m_hasImage, .inl (cA 3, 3, .inl (fun _ => 0)))] [.ref h0, .int p0]) (vp_Si (fun r => (0 ≤ (p0 : Int32).toInt ∧ (p0 : Int32).toInt ≤ 2) ∧ r = (-6) ∨ ((p0 : Int32).toInt < 0 ∨ 2 < (p0 : Int32).toInt) ∧ r = (-2))) 0 0 (fun _ => False) := by
  refine Met.ofW (cc := cX12_back) (maxL := 3) (ret := (some .int)) (by decide) rfl ?_
  intro p e s m args below meth c s₁ B hml hv
  obtain ⟨rfl, hP, hKN⟩ := hv
  have hx := B.exec
  have hb := B.bytes
  have hr := B.returns
  have hts : ∀ w ∈ TB, w.before _ s = true := fun w h => atoms_spec B.pre w (List.mem_cons_of_mem _ h)
  have hown : s.vm.findClass RX12 = some m.cls := findClass_of_methodNamed B.named
  have hlocks := B.notSynchronized
  have hl := lv_entry ([.ref h0, .int p0]) (n := 3) (Nat.le_of_ble_eq_true rfl)
  rw [lg_entry_eq]
  generalize (lg_sl ([.ref h0, .int p0]) ++ List.replicate (3 - (lg_sl ([.ref h0, .int p0])).length) Slot.unset).toArray = ls at hl ⊢
  have hl : lv_has ls 3 [(0, .ref h0), (1, .int p0)] := hl
  refine lv_iload_n hx hb dX12_back_0 rfl (lv_at hl 1 rfl) ?_
  obtain ⟨x_1, ex_1⟩ : ∃ y, p0.toInt64 = y := ⟨_, rfl⟩
  refine lv_i2l (v := x_1) hx hb dX12_back_1 ex_1 ?_
  have k_2 := tt_i2l ex_1
  refine lv_lconst (v := 0) hx hb dX12_back_2 (by decide) ?_
  refine lv_ldc2 (v := 2) hx hb hown (hts _ tw_1529) dX12_back_3 ?_
  refine cpSi (rest := []) ⟨hx, hb, hml, hown, hts⟩ hKN (hP.sub (ws' := []) [] rfl) (k_X12_in l D cA x_1 0 2) (tb_S tw_1530 tw_1531 tw_114 tw_1532) hdX12_in ⟨rfl, rfl, Nat.le_of_ble_eq_true rfl, Nat.le_of_ble_eq_true rfl⟩ ⟨Nat.le_of_ble_eq_true rfl, Nat.le_of_ble_eq_true rfl⟩ rfl hl.1 rfl (Nat.le_of_ble_eq_true rfl) dX12_back_6 (fun r_3 hr_3 => ?_)
  rcases hr_3 with ⟨k_3_0, rfl⟩ | ⟨k_3_1, rfl⟩
  · skip
    refine lv_if_ne (tgt := 15) hx hb dX12_back_9 (by decide) (fun c_4 => ?_) (fun c_4 => absurd c_4 (by decide))
    refine lv_aload_n hx hb dX12_back_15 rfl (lv_at hl 0 rfl) ?_
    refine va_get (D := D) (ci := 12) (v := .ref m_hasImage) (C := RX12) (T := TX12) (N := 35) hx hb hts inX12 hown hKN.1 hP 0 rfl rfl 3 (by decide) (hts _ tw_1422) (fun _ h9 => h9) rfl dX12_back_16 ?_
    refine lv_iload_n hx hb dX12_back_19 rfl (lv_at hl 1 rfl) ?_
    refine va_zald hx hb hKN.1 hP 1 3 rfl rfl (vp_in_iff.mpr ⟨by have zj_0 : (0 : Int64).toInt = 0 := (by decide); have zj_2 : (2 : Int64).toInt = 2 := (by decide); omega, by have zj_0 : (0 : Int64).toInt = 0 := (by decide); have zj_2 : (2 : Int64).toInt = 2 := (by decide); omega⟩) dX12_back_20 ?_
    refine lv_topi (fun x_5 ex_5 => ?_)
    obtain rfl : x_5 = 0 := ex_5
    refine lv_if_ne (tgt := 27) hx hb dX12_back_21 (by decide) (fun c_6 => absurd (by decide) c_6) (fun c_6 => ?_)
    refine lv_bipush (v := (-6)) hx hb dX12_back_24 (by decide) ?_
    exact W.iret (v := (-6)) hx hb hr (fun t ht hW => ⟨(-6), rfl, (Or.inl ⟨(by have zj_0 : (0 : Int64).toInt = 0 := (by decide); have zj_2 : (2 : Int64).toInt = 2 := (by decide); omega), rfl⟩), ht⟩) (fun _ h => by cases h) dX12_back_26
  · skip
    refine lv_if_ne (tgt := 15) hx hb dX12_back_9 (by decide) (fun c_7 => absurd (by decide) c_7) (fun c_7 => ?_)
    refine lv_bipush (v := (-2)) hx hb dX12_back_12 (by decide) ?_
    exact W.iret (v := (-2)) hx hb hr (fun t ht hW => ⟨(-2), rfl, (Or.inr ⟨(by have zj_0 : (0 : Int64).toInt = 0 := (by decide); have zj_2 : (2 : Int64).toInt = 2 := (by decide); omega), rfl⟩), ht⟩) (fun _ h => by cases h) dX12_back_14
set_option maxHeartbeats 4000000 in
set_option maxRecDepth 100000 in
theorem k_X12_write (l : Launch) (D : va_G) (cA : Nat → ClassId) (h0 : Nat) (m_world : Nat) (m_images : Nat) (m_hasImage : Nat) (m_tape : Nat) (m_five : Nat) (m_fresh : Nat) (m_sums : Nat) (m_pairs : Nat) (m_goesWith : Nat) (m_said : Nat) (m_firstOrder : Nat) (m_tiredBy : Nat) (m_many : Nat) (m_width : Nat) (m_numbers : Nat) (m_moving : Nat) (p0 : Int32) (p1 : Int32) (p2 : Int64) : Met l yX12_write (Cond.code yX12_write cX12_write 5 (some .int) :: TB) (rmd 2 0 0) (PP D cA [(h0, .inr (12, [.int 0, .ref m_world, .ref m_images, .ref m_hasImage, .ref m_tape, .int 0, .ref m_five, .int 0, .int 0, .int 0, .int 0, .int 0, .int 0, .int (-1), .ref m_fresh, .int 0, .int 0, .int 0, .int 0, .int 0, .int 0, .ref m_sums, .ref m_pairs, .ref m_goesWith, .ref m_said, .int 0, .int 0, .ref m_firstOrder, .int 0, .ref m_tiredBy, .int 0, .ref m_many, .ref m_width, .ref m_numbers, .ref m_moving])), (m_many, .inl (cA 1, 4, .inl (fun _ => (-1))))] [.ref h0, .int p0, .int p1, .long p2]) (vp_Si (fun r => (0 ≤ (p0 : Int32).toInt ∧ (p0 : Int32).toInt < 4) ∧ r = (-6) ∨ ((p0 : Int32).toInt < 0 ∨ 4 ≤ (p0 : Int32).toInt) ∧ r = (-2))) 0 0 (fun _ => False) := by
  refine Met.ofW (cc := cX12_write) (maxL := 5) (ret := (some .int)) (by decide) rfl ?_
  intro p e s m args below meth c s₁ B hml hv
  obtain ⟨rfl, hP, hKN⟩ := hv
  have hx := B.exec
  have hb := B.bytes
  have hr := B.returns
  have hts : ∀ w ∈ TB, w.before _ s = true := fun w h => atoms_spec B.pre w (List.mem_cons_of_mem _ h)
  have hown : s.vm.findClass RX12 = some m.cls := findClass_of_methodNamed B.named
  have hlocks := B.notSynchronized
  have hl := lv_entry ([.ref h0, .int p0, .int p1, .long p2]) (n := 5) (Nat.le_of_ble_eq_true rfl)
  rw [lg_entry_eq]
  generalize (lg_sl ([.ref h0, .int p0, .int p1, .long p2]) ++ List.replicate (5 - (lg_sl ([.ref h0, .int p0, .int p1, .long p2])).length) Slot.unset).toArray = ls at hl ⊢
  have hl : lv_has ls 5 [(0, .ref h0), (1, .int p0), (2, .int p1), (3, .long p2)] := hl
  refine lv_iload_n hx hb dX12_write_0 rfl (lv_at hl 1 rfl) ?_
  refine cpSi (rest := []) ⟨hx, hb, hml, hown, hts⟩ hKN (hP.sub (ws' := []) [] rfl) (k_X12_isSlot l D cA p0) (tb_S tw_1846 tw_1847 tw_114 tw_1848) hdX12_isSlot ⟨rfl, rfl, Nat.le_of_ble_eq_true rfl, Nat.le_of_ble_eq_true rfl⟩ ⟨Nat.le_of_ble_eq_true rfl, Nat.le_of_ble_eq_true rfl⟩ rfl hl.1 rfl (Nat.le_of_ble_eq_true rfl) dX12_write_1 (fun r_1 hr_1 => ?_)
  rcases hr_1 with ⟨k_1_0, rfl⟩ | ⟨k_1_1, rfl⟩
  · skip
    refine lv_if_ne (tgt := 10) hx hb dX12_write_4 (by decide) (fun c_2 => ?_) (fun c_2 => absurd c_2 (by decide))
    refine lv_aload_n hx hb dX12_write_10 rfl (lv_at hl 0 rfl) ?_
    refine va_get (D := D) (ci := 12) (v := .ref m_many) (C := RX12) (T := TX12) (N := 35) hx hb hts inX12 hown hKN.1 hP 0 rfl rfl 31 (by decide) (hts _ tw_1450) (fun _ h9 => h9) rfl dX12_write_11 ?_
    refine lv_iload_n hx hb dX12_write_14 rfl (lv_at hl 1 rfl) ?_
    refine va_iald hx hb hKN.1 hP 1 1 rfl rfl (vp_in_iff.mpr ⟨by omega, by omega⟩) dX12_write_15 ?_
    refine lv_topi (fun x_3 ex_3 => ?_)
    obtain rfl : x_3 = (-1) := ex_3
    refine lv_iconst (v := (-1)) hx hb dX12_write_16 (by decide) ?_
    refine lv_icmp_ne (tgt := 23) hx hb dX12_write_17 (by decide) (fun c_4 => absurd (by decide) c_4) (fun c_4 => ?_)
    refine lv_bipush (v := (-6)) hx hb dX12_write_20 (by decide) ?_
    exact W.iret (v := (-6)) hx hb hr (fun t ht hW => ⟨(-6), rfl, (Or.inl ⟨(by omega), rfl⟩), ht⟩) (fun _ h => by cases h) dX12_write_22
  · skip
    refine lv_if_ne (tgt := 10) hx hb dX12_write_4 (by decide) (fun c_5 => absurd (by decide) c_5) (fun c_5 => ?_)
    refine lv_bipush (v := (-2)) hx hb dX12_write_7 (by decide) ?_
    exact W.iret (v := (-2)) hx hb hr (fun t ht hW => ⟨(-2), rfl, (Or.inr ⟨(by omega), rfl⟩), ht⟩) (fun _ h => by cases h) dX12_write_9
set_option maxHeartbeats 4000000 in
set_option maxRecDepth 100000 in
theorem k_X12_paste (l : Launch) (D : va_G) (cA : Nat → ClassId) (h0 : Nat) (m_world : Nat) (m_images : Nat) (m_hasImage : Nat) (m_tape : Nat) (m_five : Nat) (m_fresh : Nat) (m_sums : Nat) (m_pairs : Nat) (m_goesWith : Nat) (m_said : Nat) (m_firstOrder : Nat) (m_tiredBy : Nat) (m_many : Nat) (m_width : Nat) (m_numbers : Nat) (m_moving : Nat) (p0 : Int32) (p1 : Int32) (p2 : Int32) (p3 : Int32) (p4 : Int32) : Met l yX12_paste (Cond.code yX12_paste cX12_paste 7 (some .int) :: TB) (rmd 2 0 0) (PP D cA [(h0, .inr (12, [.int 0, .ref m_world, .ref m_images, .ref m_hasImage, .ref m_tape, .int 0, .ref m_five, .int 0, .int 0, .int 0, .int 0, .int 0, .int 0, .int (-1), .ref m_fresh, .int 0, .int 0, .int 0, .int 0, .int 0, .int 0, .ref m_sums, .ref m_pairs, .ref m_goesWith, .ref m_said, .int 0, .int 0, .ref m_firstOrder, .int 0, .ref m_tiredBy, .int 0, .ref m_many, .ref m_width, .ref m_numbers, .ref m_moving])), (m_many, .inl (cA 1, 4, .inl (fun _ => (-1))))] [.ref h0, .int p0, .int p1, .int p2, .int p3, .int p4]) (vp_Si (fun r => (0 ≤ (p0 : Int32).toInt ∧ (p0 : Int32).toInt < 4 ∧ 0 ≤ (p2 : Int32).toInt ∧ (p2 : Int32).toInt < 4) ∧ r = (-6) ∨ ((p0 : Int32).toInt < 0 ∨ 4 ≤ (p0 : Int32).toInt ∨ (p2 : Int32).toInt < 0 ∨ 4 ≤ (p2 : Int32).toInt) ∧ r = (-2))) 0 0 (fun _ => False) := by
  refine Met.ofW (cc := cX12_paste) (maxL := 7) (ret := (some .int)) (by decide) rfl ?_
  intro p e s m args below meth c s₁ B hml hv
  obtain ⟨rfl, hP, hKN⟩ := hv
  have hx := B.exec
  have hb := B.bytes
  have hr := B.returns
  have hts : ∀ w ∈ TB, w.before _ s = true := fun w h => atoms_spec B.pre w (List.mem_cons_of_mem _ h)
  have hown : s.vm.findClass RX12 = some m.cls := findClass_of_methodNamed B.named
  have hlocks := B.notSynchronized
  have hl := lv_entry ([.ref h0, .int p0, .int p1, .int p2, .int p3, .int p4]) (n := 7) (Nat.le_of_ble_eq_true rfl)
  rw [lg_entry_eq]
  generalize (lg_sl ([.ref h0, .int p0, .int p1, .int p2, .int p3, .int p4]) ++ List.replicate (7 - (lg_sl ([.ref h0, .int p0, .int p1, .int p2, .int p3, .int p4])).length) Slot.unset).toArray = ls at hl ⊢
  have hl : lv_has ls 7 [(0, .ref h0), (1, .int p0), (2, .int p1), (3, .int p2), (4, .int p3), (5, .int p4)] := hl
  refine lv_iload_n hx hb dX12_paste_0 rfl (lv_at hl 1 rfl) ?_
  refine cpSi (rest := []) ⟨hx, hb, hml, hown, hts⟩ hKN (hP.sub (ws' := []) [] rfl) (k_X12_isSlot l D cA p0) (tb_S tw_1846 tw_1847 tw_114 tw_1848) hdX12_isSlot ⟨rfl, rfl, Nat.le_of_ble_eq_true rfl, Nat.le_of_ble_eq_true rfl⟩ ⟨Nat.le_of_ble_eq_true rfl, Nat.le_of_ble_eq_true rfl⟩ rfl hl.1 rfl (Nat.le_of_ble_eq_true rfl) dX12_paste_1 (fun r_1 hr_1 => ?_)
  rcases hr_1 with ⟨k_1_0, rfl⟩ | ⟨k_1_1, rfl⟩
  · skip
    refine lv_if_eq (tgt := 14) hx hb dX12_paste_4 (by decide) (fun c_2 => absurd c_2 (by decide)) (fun c_2 => ?_)
    refine lv_iload_n hx hb dX12_paste_7 rfl (lv_at hl 3 rfl) ?_
    refine cpSi (rest := []) ⟨hx, hb, hml, hown, hts⟩ hKN (hP.sub (ws' := []) [] rfl) (k_X12_isSlot l D cA p2) (tb_S tw_1846 tw_1847 tw_114 tw_1848) hdX12_isSlot ⟨rfl, rfl, Nat.le_of_ble_eq_true rfl, Nat.le_of_ble_eq_true rfl⟩ ⟨Nat.le_of_ble_eq_true rfl, Nat.le_of_ble_eq_true rfl⟩ rfl hl.1 rfl (Nat.le_of_ble_eq_true rfl) dX12_paste_8 (fun r_3 hr_3 => ?_)
    rcases hr_3 with ⟨k_3_0, rfl⟩ | ⟨k_3_1, rfl⟩
    · skip
      refine lv_if_ne (tgt := 17) hx hb dX12_paste_11 (by decide) (fun c_4 => ?_) (fun c_4 => absurd c_4 (by decide))
      refine lv_aload_n hx hb dX12_paste_17 rfl (lv_at hl 0 rfl) ?_
      refine va_get (D := D) (ci := 12) (v := .ref m_many) (C := RX12) (T := TX12) (N := 35) hx hb hts inX12 hown hKN.1 hP 0 rfl rfl 31 (by decide) (hts _ tw_1450) (fun _ h9 => h9) rfl dX12_paste_18 ?_
      refine lv_iload_n hx hb dX12_paste_21 rfl (lv_at hl 1 rfl) ?_
      refine va_iald hx hb hKN.1 hP 1 1 rfl rfl (vp_in_iff.mpr ⟨by omega, by omega⟩) dX12_paste_22 ?_
      refine lv_topi (fun x_5 ex_5 => ?_)
      obtain rfl : x_5 = (-1) := ex_5
      refine lv_iconst (v := (-1)) hx hb dX12_paste_23 (by decide) ?_
      refine lv_icmp_eq (tgt := 37) hx hb dX12_paste_24 (by decide) (fun c_6 => ?_) (fun c_6 => absurd (by decide) c_6)
      refine lv_bipush (v := (-6)) hx hb dX12_paste_37 (by decide) ?_
      exact W.iret (v := (-6)) hx hb hr (fun t ht hW => ⟨(-6), rfl, (Or.inl ⟨(by omega), rfl⟩), ht⟩) (fun _ h => by cases h) dX12_paste_39
    · skip
      refine lv_if_ne (tgt := 17) hx hb dX12_paste_11 (by decide) (fun c_7 => absurd (by decide) c_7) (fun c_7 => ?_)
      refine lv_bipush (v := (-2)) hx hb dX12_paste_14 (by decide) ?_
      exact W.iret (v := (-2)) hx hb hr (fun t ht hW => ⟨(-2), rfl, (Or.inr ⟨(by omega), rfl⟩), ht⟩) (fun _ h => by cases h) dX12_paste_16
  · skip
    refine lv_if_eq (tgt := 14) hx hb dX12_paste_4 (by decide) (fun c_8 => ?_) (fun c_8 => absurd (by decide) c_8)
    refine lv_bipush (v := (-2)) hx hb dX12_paste_14 (by decide) ?_
    exact W.iret (v := (-2)) hx hb hr (fun t ht hW => ⟨(-2), rfl, (Or.inr ⟨(by omega), rfl⟩), ht⟩) (fun _ h => by cases h) dX12_paste_16

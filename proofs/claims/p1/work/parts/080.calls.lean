set_option maxHeartbeats 4000000 in
set_option maxRecDepth 100000 in
theorem k_X11_isHold (l : Launch) (D : va_G) (cA : Nat → ClassId) (h0 : Nat) (tp : Nat) (rd : Nat) (g : Nat) (ev : Nat) (im : Nat) (sl : Nat) (co : Nat) (pa : Nat) (sp : Nat) (ba : Nat) (we : Nat) (g_sides : Nat) (g_grips : Nat) (g_wits : Nat) (g_says : Nat) (g_gives0 : Nat) (g_gives1 : Nat) (g_froms : Nat) (g_tos : Nat) (hold : Int32) (low : Int32) : Met l yX11_isHold (Cond.code yX11_isHold cX11_isHold 3 (some .boolean) :: TB) (rmd 1 0 0) (PP D cA [(h0, .inr (11, [.ref tp, .ref rd, .ref g, .ref ev, .ref im, .ref sl, .ref co, .ref pa, .ref sp, .ref ba, .ref we])), (g, .inr (3, [.int 0, .int 0, .int 0, .int 0, .int 0, .int 0, .int 0, .int 0, .ref g_sides, .ref g_grips, .ref g_wits, .ref g_says, .ref g_gives0, .ref g_gives1, .ref g_froms, .ref g_tos]))] [.ref h0, .int hold, .int low]) (vp_Si (fun r => r = 0)) 0 0 (fun _ => False) := by
  refine Met.ofW (cc := cX11_isHold) (maxL := 3) (ret := (some .boolean)) (by decide) rfl ?_
  intro p e s m args below meth c s₁ B hml hv
  obtain ⟨rfl, hP, hKN⟩ := hv
  have hx := B.exec
  have hb := B.bytes
  have hr := B.returns
  have hts : ∀ w ∈ TB, w.before _ s = true := fun w h => atoms_spec B.pre w (List.mem_cons_of_mem _ h)
  have hown : s.vm.findClass RX11 = some m.cls := findClass_of_methodNamed B.named
  have hlocks := B.notSynchronized
  have hl := lv_entry ([.ref h0, .int hold, .int low]) (n := 3) (Nat.le_of_ble_eq_true rfl)
  rw [lg_entry_eq]
  generalize (lg_sl ([.ref h0, .int hold, .int low]) ++ List.replicate (3 - (lg_sl ([.ref h0, .int hold, .int low])).length) Slot.unset).toArray = ls at hl ⊢
  have hl : lv_has ls 3 [(0, .ref h0), (1, .int hold), (2, .int low)] := hl
  refine lv_aload_n hx hb dX11_isHold_0 rfl (lv_at hl 0 rfl) ?_
  refine va_get (D := D) (ci := 11) (v := .ref g) (C := RX11) (T := TX11) (N := 11) hx hb hts inX11 hown hKN.1 hP 0 rfl rfl 2 (by decide) (hts _ tw_467) (fun _ h9 => h9) rfl dX11_isHold_1 ?_
  refine cpVi (rest := []) ⟨hx, hb, hml, hown, hts⟩ hKN (hP.sub (ws' := [(g, .inr (3, [.int 0, .int 0, .int 0, .int 0, .int 0, .int 0, .int 0, .int 0, .ref g_sides, .ref g_grips, .ref g_wits, .ref g_says, .ref g_gives0, .ref g_gives1, .ref g_froms, .ref g_tos]))]) [1] rfl) (k_X3_exists l D cA g g_sides g_grips g_wits g_says g_gives0 g_gives1 g_froms g_tos) (tb_V tw_768 tw_741 tw_742 tw_104 tw_743) hdX3_exists ⟨rfl, rfl, Nat.le_of_ble_eq_true rfl, Nat.le_of_ble_eq_true rfl⟩ ⟨Nat.le_of_ble_eq_true rfl, Nat.le_of_ble_eq_true rfl⟩ rfl rfl rfl hl.1 rfl (Nat.le_of_ble_eq_true rfl) dX11_isHold_4 (fun r_1 hr_1 => ?_)
  obtain rfl : r_1 = 0 := hr_1
  refine lv_if_eq (tgt := 24) hx hb dX11_isHold_7 (by decide) (fun c_2 => ?_) (fun c_2 => absurd (by decide) c_2)
  refine lv_iconst (v := 0) hx hb dX11_isHold_24 (by decide) ?_
  exact W.zret (v := 0) hx hb hr (by decide) (fun t ht hW => ⟨0, rfl, rfl, ht⟩) (fun _ h => by cases h) dX11_isHold_25
set_option maxHeartbeats 4000000 in
set_option maxRecDepth 100000 in
theorem k_X11_saidRefusal (l : Launch) (D : va_G) (cA : Nat → ClassId) (h0 : Nat) (tp : Nat) (rd : Nat) (g : Nat) (ev : Nat) (im : Nat) (sl : Nat) (co : Nat) (pa : Nat) (sp : Nat) (ba : Nat) (we : Nat) (g_sides : Nat) (g_grips : Nat) (g_wits : Nat) (g_says : Nat) (g_gives0 : Nat) (g_gives1 : Nat) (g_froms : Nat) (g_tos : Nat) (slot : Int32) (hold : Int32) : Met l yX11_saidRefusal (Cond.code yX11_saidRefusal cX11_saidRefusal 3 (some .int) :: TB) (rmd 2 0 0) (PP D cA [(h0, .inr (11, [.ref tp, .ref rd, .ref g, .ref ev, .ref im, .ref sl, .ref co, .ref pa, .ref sp, .ref ba, .ref we])), (g, .inr (3, [.int 0, .int 0, .int 0, .int 0, .int 0, .int 0, .int 0, .int 0, .ref g_sides, .ref g_grips, .ref g_wits, .ref g_says, .ref g_gives0, .ref g_gives1, .ref g_froms, .ref g_tos]))] [.ref h0, .int slot, .int hold]) (vp_Si (fun r => r = (-2))) 0 0 (fun _ => False) := by
  refine Met.ofW (cc := cX11_saidRefusal) (maxL := 3) (ret := (some .int)) (by decide) rfl ?_
  intro p e s m args below meth c s₁ B hml hv
  obtain ⟨rfl, hP, hKN⟩ := hv
  have hx := B.exec
  have hb := B.bytes
  have hr := B.returns
  have hts : ∀ w ∈ TB, w.before _ s = true := fun w h => atoms_spec B.pre w (List.mem_cons_of_mem _ h)
  have hown : s.vm.findClass RX11 = some m.cls := findClass_of_methodNamed B.named
  have hlocks := B.notSynchronized
  have hl := lv_entry ([.ref h0, .int slot, .int hold]) (n := 3) (Nat.le_of_ble_eq_true rfl)
  rw [lg_entry_eq]
  generalize (lg_sl ([.ref h0, .int slot, .int hold]) ++ List.replicate (3 - (lg_sl ([.ref h0, .int slot, .int hold])).length) Slot.unset).toArray = ls at hl ⊢
  have hl : lv_has ls 3 [(0, .ref h0), (1, .int slot), (2, .int hold)] := hl
  refine lv_aload_n hx hb dX11_saidRefusal_0 rfl (lv_at hl 0 rfl) ?_
  refine lv_iload_n hx hb dX11_saidRefusal_1 rfl (lv_at hl 2 rfl) ?_
  refine lv_iconst (v := 1) hx hb dX11_saidRefusal_2 (by decide) ?_
  refine cpVi (rest := []) ⟨hx, hb, hml, hown, hts⟩ hKN (hP.sub (ws' := [(h0, .inr (11, [.ref tp, .ref rd, .ref g, .ref ev, .ref im, .ref sl, .ref co, .ref pa, .ref sp, .ref ba, .ref we])), (g, .inr (3, [.int 0, .int 0, .int 0, .int 0, .int 0, .int 0, .int 0, .int 0, .ref g_sides, .ref g_grips, .ref g_wits, .ref g_says, .ref g_gives0, .ref g_gives1, .ref g_froms, .ref g_tos]))]) [0, 1] rfl) (k_X11_isHold l D cA h0 tp rd g ev im sl co pa sp ba we g_sides g_grips g_wits g_says g_gives0 g_gives1 g_froms g_tos hold 1) (tb_V tw_934 tw_936 tw_16 tw_101 tw_937) hdX11_isHold ⟨rfl, rfl, Nat.le_of_ble_eq_true rfl, Nat.le_of_ble_eq_true rfl⟩ ⟨Nat.le_of_ble_eq_true rfl, Nat.le_of_ble_eq_true rfl⟩ rfl rfl rfl hl.1 rfl (Nat.le_of_ble_eq_true rfl) dX11_saidRefusal_3 (fun r_1 hr_1 => ?_)
  obtain rfl : r_1 = 0 := hr_1
  refine lv_if_eq (tgt := 20) hx hb dX11_saidRefusal_6 (by decide) (fun c_2 => ?_) (fun c_2 => absurd (by decide) c_2)
  refine lv_bipush (v := (-2)) hx hb dX11_saidRefusal_20 (by decide) ?_
  exact W.iret (v := (-2)) hx hb hr (fun t ht hW => ⟨(-2), rfl, rfl, ht⟩) (fun _ h => by cases h) dX11_saidRefusal_22
set_option maxHeartbeats 4000000 in
set_option maxRecDepth 100000 in
theorem k_X11_toldRefusal (l : Launch) (D : va_G) (cA : Nat → ClassId) (h0 : Nat) (tp : Nat) (rd : Nat) (g : Nat) (ev : Nat) (im : Nat) (sl : Nat) (co : Nat) (pa : Nat) (sp : Nat) (ba : Nat) (we : Nat) (g_sides : Nat) (g_grips : Nat) (g_wits : Nat) (g_says : Nat) (g_gives0 : Nat) (g_gives1 : Nat) (g_froms : Nat) (g_tos : Nat) (slot : Int32) : Met l yX11_toldRefusal (Cond.code yX11_toldRefusal cX11_toldRefusal 2 (some .int) :: TB) (rmd 1 0 0) (PP D cA [(h0, .inr (11, [.ref tp, .ref rd, .ref g, .ref ev, .ref im, .ref sl, .ref co, .ref pa, .ref sp, .ref ba, .ref we])), (g, .inr (3, [.int 0, .int 0, .int 0, .int 0, .int 0, .int 0, .int 0, .int 0, .ref g_sides, .ref g_grips, .ref g_wits, .ref g_says, .ref g_gives0, .ref g_gives1, .ref g_froms, .ref g_tos]))] [.ref h0, .int slot]) (vp_Si (fun r => r = (-2))) 0 0 (fun _ => False) := by
  refine Met.ofW (cc := cX11_toldRefusal) (maxL := 2) (ret := (some .int)) (by decide) rfl ?_
  intro p e s m args below meth c s₁ B hml hv
  obtain ⟨rfl, hP, hKN⟩ := hv
  have hx := B.exec
  have hb := B.bytes
  have hr := B.returns
  have hts : ∀ w ∈ TB, w.before _ s = true := fun w h => atoms_spec B.pre w (List.mem_cons_of_mem _ h)
  have hown : s.vm.findClass RX11 = some m.cls := findClass_of_methodNamed B.named
  have hlocks := B.notSynchronized
  have hl := lv_entry ([.ref h0, .int slot]) (n := 2) (Nat.le_of_ble_eq_true rfl)
  rw [lg_entry_eq]
  generalize (lg_sl ([.ref h0, .int slot]) ++ List.replicate (2 - (lg_sl ([.ref h0, .int slot])).length) Slot.unset).toArray = ls at hl ⊢
  have hl : lv_has ls 2 [(0, .ref h0), (1, .int slot)] := hl
  refine lv_aload_n hx hb dX11_toldRefusal_0 rfl (lv_at hl 0 rfl) ?_
  refine va_get (D := D) (ci := 11) (v := .ref g) (C := RX11) (T := TX11) (N := 11) hx hb hts inX11 hown hKN.1 hP 0 rfl rfl 2 (by decide) (hts _ tw_467) (fun _ h9 => h9) rfl dX11_toldRefusal_1 ?_
  refine cpVi (rest := []) ⟨hx, hb, hml, hown, hts⟩ hKN (hP.sub (ws' := [(g, .inr (3, [.int 0, .int 0, .int 0, .int 0, .int 0, .int 0, .int 0, .int 0, .ref g_sides, .ref g_grips, .ref g_wits, .ref g_says, .ref g_gives0, .ref g_gives1, .ref g_froms, .ref g_tos]))]) [1] rfl) (k_X3_exists l D cA g g_sides g_grips g_wits g_says g_gives0 g_gives1 g_froms g_tos) (tb_V tw_768 tw_741 tw_742 tw_104 tw_743) hdX3_exists ⟨rfl, rfl, Nat.le_of_ble_eq_true rfl, Nat.le_of_ble_eq_true rfl⟩ ⟨Nat.le_of_ble_eq_true rfl, Nat.le_of_ble_eq_true rfl⟩ rfl rfl rfl hl.1 rfl (Nat.le_of_ble_eq_true rfl) dX11_toldRefusal_4 (fun r_1 hr_1 => ?_)
  obtain rfl : r_1 = 0 := hr_1
  refine lv_if_eq (tgt := 21) hx hb dX11_toldRefusal_7 (by decide) (fun c_2 => ?_) (fun c_2 => absurd (by decide) c_2)
  refine lv_bipush (v := (-2)) hx hb dX11_toldRefusal_21 (by decide) ?_
  exact W.iret (v := (-2)) hx hb hr (fun t ht hW => ⟨(-2), rfl, rfl, ht⟩) (fun _ h => by cases h) dX11_toldRefusal_23
set_option maxHeartbeats 4000000 in
set_option maxRecDepth 100000 in
theorem k_X11_man (l : Launch) (D : va_G) (cA : Nat → ClassId) (h0 : Nat) (tp : Nat) (rd : Nat) (g : Nat) (ev : Nat) (im : Nat) (sl : Nat) (co : Nat) (pa : Nat) (sp : Nat) (ba : Nat) (we : Nat) (g_sides : Nat) (g_grips : Nat) (g_wits : Nat) (g_says : Nat) (g_gives0 : Nat) (g_gives1 : Nat) (g_froms : Nat) (g_tos : Nat) (p0 : Int32) (p1 : Int32) : Met l yX11_man (Cond.code yX11_man cX11_man 3 (some .int) :: TB) (rmd 1 0 0) (PP D cA [(h0, .inr (11, [.ref tp, .ref rd, .ref g, .ref ev, .ref im, .ref sl, .ref co, .ref pa, .ref sp, .ref ba, .ref we])), (g, .inr (3, [.int 0, .int 0, .int 0, .int 0, .int 0, .int 0, .int 0, .int 0, .ref g_sides, .ref g_grips, .ref g_wits, .ref g_says, .ref g_gives0, .ref g_gives1, .ref g_froms, .ref g_tos]))] [.ref h0, .int p0, .int p1]) (vp_Si (fun r => r = (-2))) 0 0 (fun _ => False) := by
  refine Met.ofW (cc := cX11_man) (maxL := 3) (ret := (some .int)) (by decide) rfl ?_
  intro p e s m args below meth c s₁ B hml hv
  obtain ⟨rfl, hP, hKN⟩ := hv
  have hx := B.exec
  have hb := B.bytes
  have hr := B.returns
  have hts : ∀ w ∈ TB, w.before _ s = true := fun w h => atoms_spec B.pre w (List.mem_cons_of_mem _ h)
  have hown : s.vm.findClass RX11 = some m.cls := findClass_of_methodNamed B.named
  have hlocks := B.notSynchronized
  have hl := lv_entry ([.ref h0, .int p0, .int p1]) (n := 3) (Nat.le_of_ble_eq_true rfl)
  rw [lg_entry_eq]
  generalize (lg_sl ([.ref h0, .int p0, .int p1]) ++ List.replicate (3 - (lg_sl ([.ref h0, .int p0, .int p1])).length) Slot.unset).toArray = ls at hl ⊢
  have hl : lv_has ls 3 [(0, .ref h0), (1, .int p0), (2, .int p1)] := hl
  refine lv_aload_n hx hb dX11_man_0 rfl (lv_at hl 0 rfl) ?_
  refine va_get (D := D) (ci := 11) (v := .ref g) (C := RX11) (T := TX11) (N := 11) hx hb hts inX11 hown hKN.1 hP 0 rfl rfl 2 (by decide) (hts _ tw_467) (fun _ h9 => h9) rfl dX11_man_1 ?_
  refine lv_iload_n hx hb dX11_man_4 rfl (lv_at hl 1 rfl) ?_
  refine cpVi (rest := []) ⟨hx, hb, hml, hown, hts⟩ hKN (hP.sub (ws' := [(g, .inr (3, [.int 0, .int 0, .int 0, .int 0, .int 0, .int 0, .int 0, .int 0, .ref g_sides, .ref g_grips, .ref g_wits, .ref g_says, .ref g_gives0, .ref g_gives1, .ref g_froms, .ref g_tos]))]) [1] rfl) (k_X3_hasMan l D cA g g_sides g_grips g_wits g_says g_gives0 g_gives1 g_froms g_tos p0) (tb_V tw_698 tw_699 tw_700 tw_104 tw_701) hdX3_hasMan ⟨rfl, rfl, Nat.le_of_ble_eq_true rfl, Nat.le_of_ble_eq_true rfl⟩ ⟨Nat.le_of_ble_eq_true rfl, Nat.le_of_ble_eq_true rfl⟩ rfl rfl rfl hl.1 rfl (Nat.le_of_ble_eq_true rfl) dX11_man_5 (fun r_1 hr_1 => ?_)
  obtain rfl : r_1 = 0 := hr_1
  refine lv_if_ne (tgt := 14) hx hb dX11_man_8 (by decide) (fun c_2 => absurd (by decide) c_2) (fun c_2 => ?_)
  refine lv_bipush (v := (-2)) hx hb dX11_man_11 (by decide) ?_
  exact W.iret (v := (-2)) hx hb hr (fun t ht hW => ⟨(-2), rfl, rfl, ht⟩) (fun _ h => by cases h) dX11_man_13
set_option maxHeartbeats 4000000 in
set_option maxRecDepth 100000 in
theorem k_X11_start (l : Launch) (D : va_G) (cA : Nat → ClassId) (h0 : Nat) (tp : Nat) (rd : Nat) (g : Nat) (ev : Nat) (im : Nat) (sl : Nat) (co : Nat) (pa : Nat) (sp : Nat) (ba : Nat) (we : Nat) (g_sides : Nat) (g_grips : Nat) (g_wits : Nat) (g_says : Nat) (g_gives0 : Nat) (g_gives1 : Nat) (g_froms : Nat) (g_tos : Nat) (p0 : Int32) : Met l yX11_start (Cond.code yX11_start cX11_start 2 (some .int) :: TB) (rmd 2 0 0) (PP D cA [(h0, .inr (11, [.ref tp, .ref rd, .ref g, .ref ev, .ref im, .ref sl, .ref co, .ref pa, .ref sp, .ref ba, .ref we])), (g, .inr (3, [.int 0, .int 0, .int 0, .int 0, .int 0, .int 0, .int 0, .int 0, .ref g_sides, .ref g_grips, .ref g_wits, .ref g_says, .ref g_gives0, .ref g_gives1, .ref g_froms, .ref g_tos]))] [.ref h0, .int p0]) (vp_Si (fun r => r = (-2))) 0 0 (fun _ => False) := by
  refine Met.ofW (cc := cX11_start) (maxL := 2) (ret := (some .int)) (by decide) rfl ?_
  intro p e s m args below meth c s₁ B hml hv
  obtain ⟨rfl, hP, hKN⟩ := hv
  have hx := B.exec
  have hb := B.bytes
  have hr := B.returns
  have hts : ∀ w ∈ TB, w.before _ s = true := fun w h => atoms_spec B.pre w (List.mem_cons_of_mem _ h)
  have hown : s.vm.findClass RX11 = some m.cls := findClass_of_methodNamed B.named
  have hlocks := B.notSynchronized
  have hl := lv_entry ([.ref h0, .int p0]) (n := 2) (Nat.le_of_ble_eq_true rfl)
  rw [lg_entry_eq]
  generalize (lg_sl ([.ref h0, .int p0]) ++ List.replicate (2 - (lg_sl ([.ref h0, .int p0])).length) Slot.unset).toArray = ls at hl ⊢
  have hl : lv_has ls 2 [(0, .ref h0), (1, .int p0)] := hl
  refine lv_aload_n hx hb dX11_start_0 rfl (lv_at hl 0 rfl) ?_
  refine va_get (D := D) (ci := 11) (v := .ref g) (C := RX11) (T := TX11) (N := 11) hx hb hts inX11 hown hKN.1 hP 0 rfl rfl 2 (by decide) (hts _ tw_467) (fun _ h9 => h9) rfl dX11_start_1 ?_
  refine lv_iload_n hx hb dX11_start_4 rfl (lv_at hl 1 rfl) ?_
  refine cpVi (rest := []) ⟨hx, hb, hml, hown, hts⟩ hKN (hP.sub (ws' := [(g, .inr (3, [.int 0, .int 0, .int 0, .int 0, .int 0, .int 0, .int 0, .int 0, .ref g_sides, .ref g_grips, .ref g_wits, .ref g_says, .ref g_gives0, .ref g_gives1, .ref g_froms, .ref g_tos]))]) [1] rfl) (k_X3_hasSide l D cA g g_sides g_grips g_wits g_says g_gives0 g_gives1 g_froms g_tos p0) (tb_V tw_736 tw_737 tw_738 tw_104 tw_739) hdX3_hasSide ⟨rfl, rfl, Nat.le_of_ble_eq_true rfl, Nat.le_of_ble_eq_true rfl⟩ ⟨Nat.le_of_ble_eq_true rfl, Nat.le_of_ble_eq_true rfl⟩ rfl rfl rfl hl.1 rfl (Nat.le_of_ble_eq_true rfl) dX11_start_5 (fun r_1 hr_1 => ?_)
  obtain rfl : r_1 = 0 := hr_1
  refine lv_if_eq (tgt := 22) hx hb dX11_start_8 (by decide) (fun c_2 => ?_) (fun c_2 => absurd (by decide) c_2)
  refine lv_bipush (v := (-2)) hx hb dX11_start_22 (by decide) ?_
  exact W.iret (v := (-2)) hx hb hr (fun t ht hW => ⟨(-2), rfl, rfl, ht⟩) (fun _ h => by cases h) dX11_start_24
set_option maxHeartbeats 4000000 in
set_option maxRecDepth 100000 in
theorem k_X11_out (l : Launch) (D : va_G) (cA : Nat → ClassId) (h0 : Nat) (tp : Nat) (rd : Nat) (g : Nat) (ev : Nat) (im : Nat) (sl : Nat) (co : Nat) (pa : Nat) (sp : Nat) (ba : Nat) (we : Nat) (g_sides : Nat) (g_grips : Nat) (g_wits : Nat) (g_says : Nat) (g_gives0 : Nat) (g_gives1 : Nat) (g_froms : Nat) (g_tos : Nat) (p0 : Int32) (p1 : Int32) : Met l yX11_out (Cond.code yX11_out cX11_out 3 (some .int) :: TB) (rmd 2 0 0) (PP D cA [(h0, .inr (11, [.ref tp, .ref rd, .ref g, .ref ev, .ref im, .ref sl, .ref co, .ref pa, .ref sp, .ref ba, .ref we])), (g, .inr (3, [.int 0, .int 0, .int 0, .int 0, .int 0, .int 0, .int 0, .int 0, .ref g_sides, .ref g_grips, .ref g_wits, .ref g_says, .ref g_gives0, .ref g_gives1, .ref g_froms, .ref g_tos]))] [.ref h0, .int p0, .int p1]) (vp_Si (fun r => r = (-2))) 0 0 (fun _ => False) := by
  refine Met.ofW (cc := cX11_out) (maxL := 3) (ret := (some .int)) (by decide) rfl ?_
  intro p e s m args below meth c s₁ B hml hv
  obtain ⟨rfl, hP, hKN⟩ := hv
  have hx := B.exec
  have hb := B.bytes
  have hr := B.returns
  have hts : ∀ w ∈ TB, w.before _ s = true := fun w h => atoms_spec B.pre w (List.mem_cons_of_mem _ h)
  have hown : s.vm.findClass RX11 = some m.cls := findClass_of_methodNamed B.named
  have hlocks := B.notSynchronized
  have hl := lv_entry ([.ref h0, .int p0, .int p1]) (n := 3) (Nat.le_of_ble_eq_true rfl)
  rw [lg_entry_eq]
  generalize (lg_sl ([.ref h0, .int p0, .int p1]) ++ List.replicate (3 - (lg_sl ([.ref h0, .int p0, .int p1])).length) Slot.unset).toArray = ls at hl ⊢
  have hl : lv_has ls 3 [(0, .ref h0), (1, .int p0), (2, .int p1)] := hl
  refine lv_aload_n hx hb dX11_out_0 rfl (lv_at hl 0 rfl) ?_
  refine va_get (D := D) (ci := 11) (v := .ref g) (C := RX11) (T := TX11) (N := 11) hx hb hts inX11 hown hKN.1 hP 0 rfl rfl 2 (by decide) (hts _ tw_467) (fun _ h9 => h9) rfl dX11_out_1 ?_
  refine lv_iload_n hx hb dX11_out_4 rfl (lv_at hl 1 rfl) ?_
  refine cpVi (rest := []) ⟨hx, hb, hml, hown, hts⟩ hKN (hP.sub (ws' := [(g, .inr (3, [.int 0, .int 0, .int 0, .int 0, .int 0, .int 0, .int 0, .int 0, .ref g_sides, .ref g_grips, .ref g_wits, .ref g_says, .ref g_gives0, .ref g_gives1, .ref g_froms, .ref g_tos]))]) [1] rfl) (k_X3_hasSide l D cA g g_sides g_grips g_wits g_says g_gives0 g_gives1 g_froms g_tos p0) (tb_V tw_736 tw_737 tw_738 tw_104 tw_739) hdX3_hasSide ⟨rfl, rfl, Nat.le_of_ble_eq_true rfl, Nat.le_of_ble_eq_true rfl⟩ ⟨Nat.le_of_ble_eq_true rfl, Nat.le_of_ble_eq_true rfl⟩ rfl rfl rfl hl.1 rfl (Nat.le_of_ble_eq_true rfl) dX11_out_5 (fun r_1 hr_1 => ?_)
  obtain rfl : r_1 = 0 := hr_1
  refine lv_if_eq (tgt := 21) hx hb dX11_out_8 (by decide) (fun c_2 => ?_) (fun c_2 => absurd (by decide) c_2)
  refine lv_bipush (v := (-2)) hx hb dX11_out_21 (by decide) ?_
  exact W.iret (v := (-2)) hx hb hr (fun t ht hW => ⟨(-2), rfl, rfl, ht⟩) (fun _ h => by cases h) dX11_out_23
set_option maxHeartbeats 4000000 in
set_option maxRecDepth 100000 in
theorem k_X11_next (l : Launch) (D : va_G) (cA : Nat → ClassId) (h0 : Nat) (tp : Nat) (rd : Nat) (g : Nat) (ev : Nat) (im : Nat) (sl : Nat) (co : Nat) (pa : Nat) (sp : Nat) (ba : Nat) (we : Nat) (g_sides : Nat) (g_grips : Nat) (g_wits : Nat) (g_says : Nat) (g_gives0 : Nat) (g_gives1 : Nat) (g_froms : Nat) (g_tos : Nat) (p0 : Int32) : Met l yX11_next (Cond.code yX11_next cX11_next 2 (some .int) :: TB) (rmd 1 0 0) (PP D cA [(h0, .inr (11, [.ref tp, .ref rd, .ref g, .ref ev, .ref im, .ref sl, .ref co, .ref pa, .ref sp, .ref ba, .ref we])), (g, .inr (3, [.int 0, .int 0, .int 0, .int 0, .int 0, .int 0, .int 0, .int 0, .ref g_sides, .ref g_grips, .ref g_wits, .ref g_says, .ref g_gives0, .ref g_gives1, .ref g_froms, .ref g_tos]))] [.ref h0, .int p0]) (vp_Si (fun r => r = (-2))) 0 0 (fun _ => False) := by
  refine Met.ofW (cc := cX11_next) (maxL := 2) (ret := (some .int)) (by decide) rfl ?_
  intro p e s m args below meth c s₁ B hml hv
  obtain ⟨rfl, hP, hKN⟩ := hv
  have hx := B.exec
  have hb := B.bytes
  have hr := B.returns
  have hts : ∀ w ∈ TB, w.before _ s = true := fun w h => atoms_spec B.pre w (List.mem_cons_of_mem _ h)
  have hown : s.vm.findClass RX11 = some m.cls := findClass_of_methodNamed B.named
  have hlocks := B.notSynchronized
  have hl := lv_entry ([.ref h0, .int p0]) (n := 2) (Nat.le_of_ble_eq_true rfl)
  rw [lg_entry_eq]
  generalize (lg_sl ([.ref h0, .int p0]) ++ List.replicate (2 - (lg_sl ([.ref h0, .int p0])).length) Slot.unset).toArray = ls at hl ⊢
  have hl : lv_has ls 2 [(0, .ref h0), (1, .int p0)] := hl
  refine lv_aload_n hx hb dX11_next_0 rfl (lv_at hl 0 rfl) ?_
  refine va_get (D := D) (ci := 11) (v := .ref g) (C := RX11) (T := TX11) (N := 11) hx hb hts inX11 hown hKN.1 hP 0 rfl rfl 2 (by decide) (hts _ tw_467) (fun _ h9 => h9) rfl dX11_next_1 ?_
  refine cpVi (rest := []) ⟨hx, hb, hml, hown, hts⟩ hKN (hP.sub (ws' := [(g, .inr (3, [.int 0, .int 0, .int 0, .int 0, .int 0, .int 0, .int 0, .int 0, .ref g_sides, .ref g_grips, .ref g_wits, .ref g_says, .ref g_gives0, .ref g_gives1, .ref g_froms, .ref g_tos]))]) [1] rfl) (k_X3_exists l D cA g g_sides g_grips g_wits g_says g_gives0 g_gives1 g_froms g_tos) (tb_V tw_768 tw_741 tw_742 tw_104 tw_743) hdX3_exists ⟨rfl, rfl, Nat.le_of_ble_eq_true rfl, Nat.le_of_ble_eq_true rfl⟩ ⟨Nat.le_of_ble_eq_true rfl, Nat.le_of_ble_eq_true rfl⟩ rfl rfl rfl hl.1 rfl (Nat.le_of_ble_eq_true rfl) dX11_next_4 (fun r_1 hr_1 => ?_)
  obtain rfl : r_1 = 0 := hr_1
  refine lv_if_eq (tgt := 21) hx hb dX11_next_7 (by decide) (fun c_2 => ?_) (fun c_2 => absurd (by decide) c_2)
  refine lv_bipush (v := (-2)) hx hb dX11_next_21 (by decide) ?_
  exact W.iret (v := (-2)) hx hb hr (fun t ht hW => ⟨(-2), rfl, rfl, ht⟩) (fun _ h => by cases h) dX11_next_23
set_option maxHeartbeats 4000000 in
set_option maxRecDepth 100000 in
theorem k_X11_meetings (l : Launch) (D : va_G) (cA : Nat → ClassId) (h0 : Nat) (tp : Nat) (rd : Nat) (g : Nat) (ev : Nat) (im : Nat) (sl : Nat) (co : Nat) (pa : Nat) (sp : Nat) (ba : Nat) (we : Nat) (g_sides : Nat) (g_grips : Nat) (g_wits : Nat) (g_says : Nat) (g_gives0 : Nat) (g_gives1 : Nat) (g_froms : Nat) (g_tos : Nat) (p0 : Int32) : Met l yX11_meetings (Cond.code yX11_meetings cX11_meetings 2 (some .int) :: TB) (rmd 1 0 0) (PP D cA [(h0, .inr (11, [.ref tp, .ref rd, .ref g, .ref ev, .ref im, .ref sl, .ref co, .ref pa, .ref sp, .ref ba, .ref we])), (g, .inr (3, [.int 0, .int 0, .int 0, .int 0, .int 0, .int 0, .int 0, .int 0, .ref g_sides, .ref g_grips, .ref g_wits, .ref g_says, .ref g_gives0, .ref g_gives1, .ref g_froms, .ref g_tos]))] [.ref h0, .int p0]) (vp_Si (fun r => r = (-2))) 0 0 (fun _ => False) := by
  refine Met.ofW (cc := cX11_meetings) (maxL := 2) (ret := (some .int)) (by decide) rfl ?_
  intro p e s m args below meth c s₁ B hml hv
  obtain ⟨rfl, hP, hKN⟩ := hv
  have hx := B.exec
  have hb := B.bytes
  have hr := B.returns
  have hts : ∀ w ∈ TB, w.before _ s = true := fun w h => atoms_spec B.pre w (List.mem_cons_of_mem _ h)
  have hown : s.vm.findClass RX11 = some m.cls := findClass_of_methodNamed B.named
  have hlocks := B.notSynchronized
  have hl := lv_entry ([.ref h0, .int p0]) (n := 2) (Nat.le_of_ble_eq_true rfl)
  rw [lg_entry_eq]
  generalize (lg_sl ([.ref h0, .int p0]) ++ List.replicate (2 - (lg_sl ([.ref h0, .int p0])).length) Slot.unset).toArray = ls at hl ⊢
  have hl : lv_has ls 2 [(0, .ref h0), (1, .int p0)] := hl
  refine lv_aload_n hx hb dX11_meetings_0 rfl (lv_at hl 0 rfl) ?_
  refine va_get (D := D) (ci := 11) (v := .ref g) (C := RX11) (T := TX11) (N := 11) hx hb hts inX11 hown hKN.1 hP 0 rfl rfl 2 (by decide) (hts _ tw_467) (fun _ h9 => h9) rfl dX11_meetings_1 ?_
  refine cpVi (rest := []) ⟨hx, hb, hml, hown, hts⟩ hKN (hP.sub (ws' := [(g, .inr (3, [.int 0, .int 0, .int 0, .int 0, .int 0, .int 0, .int 0, .int 0, .ref g_sides, .ref g_grips, .ref g_wits, .ref g_says, .ref g_gives0, .ref g_gives1, .ref g_froms, .ref g_tos]))]) [1] rfl) (k_X3_exists l D cA g g_sides g_grips g_wits g_says g_gives0 g_gives1 g_froms g_tos) (tb_V tw_768 tw_741 tw_742 tw_104 tw_743) hdX3_exists ⟨rfl, rfl, Nat.le_of_ble_eq_true rfl, Nat.le_of_ble_eq_true rfl⟩ ⟨Nat.le_of_ble_eq_true rfl, Nat.le_of_ble_eq_true rfl⟩ rfl rfl rfl hl.1 rfl (Nat.le_of_ble_eq_true rfl) dX11_meetings_4 (fun r_1 hr_1 => ?_)
  obtain rfl : r_1 = 0 := hr_1
  refine lv_if_eq (tgt := 21) hx hb dX11_meetings_7 (by decide) (fun c_2 => ?_) (fun c_2 => absurd (by decide) c_2)
  refine lv_bipush (v := (-2)) hx hb dX11_meetings_21 (by decide) ?_
  exact W.iret (v := (-2)) hx hb hr (fun t ht hW => ⟨(-2), rfl, rfl, ht⟩) (fun _ h => by cases h) dX11_meetings_23
set_option maxHeartbeats 4000000 in
set_option maxRecDepth 100000 in
theorem k_X11_longest (l : Launch) (D : va_G) (cA : Nat → ClassId) (h0 : Nat) (tp : Nat) (rd : Nat) (g : Nat) (ev : Nat) (im : Nat) (sl : Nat) (co : Nat) (pa : Nat) (sp : Nat) (ba : Nat) (we : Nat) (g_sides : Nat) (g_grips : Nat) (g_wits : Nat) (g_says : Nat) (g_gives0 : Nat) (g_gives1 : Nat) (g_froms : Nat) (g_tos : Nat) : Met l yX11_longest (Cond.code yX11_longest cX11_longest 1 (some .int) :: TB) (rmd 1 0 0) (PP D cA [(h0, .inr (11, [.ref tp, .ref rd, .ref g, .ref ev, .ref im, .ref sl, .ref co, .ref pa, .ref sp, .ref ba, .ref we])), (g, .inr (3, [.int 0, .int 0, .int 0, .int 0, .int 0, .int 0, .int 0, .int 0, .ref g_sides, .ref g_grips, .ref g_wits, .ref g_says, .ref g_gives0, .ref g_gives1, .ref g_froms, .ref g_tos]))] [.ref h0]) (vp_Si (fun r => r = (-2))) 0 0 (fun _ => False) := by
  refine Met.ofW (cc := cX11_longest) (maxL := 1) (ret := (some .int)) (by decide) rfl ?_
  intro p e s m args below meth c s₁ B hml hv
  obtain ⟨rfl, hP, hKN⟩ := hv
  have hx := B.exec
  have hb := B.bytes
  have hr := B.returns
  have hts : ∀ w ∈ TB, w.before _ s = true := fun w h => atoms_spec B.pre w (List.mem_cons_of_mem _ h)
  have hown : s.vm.findClass RX11 = some m.cls := findClass_of_methodNamed B.named
  have hlocks := B.notSynchronized
  have hl := lv_entry ([.ref h0]) (n := 1) (Nat.le_of_ble_eq_true rfl)
  rw [lg_entry_eq]
  generalize (lg_sl ([.ref h0]) ++ List.replicate (1 - (lg_sl ([.ref h0])).length) Slot.unset).toArray = ls at hl ⊢
  have hl : lv_has ls 1 [(0, .ref h0)] := hl
  refine lv_aload_n hx hb dX11_longest_0 rfl (lv_at hl 0 rfl) ?_
  refine va_get (D := D) (ci := 11) (v := .ref g) (C := RX11) (T := TX11) (N := 11) hx hb hts inX11 hown hKN.1 hP 0 rfl rfl 2 (by decide) (hts _ tw_467) (fun _ h9 => h9) rfl dX11_longest_1 ?_
  refine cpVi (rest := []) ⟨hx, hb, hml, hown, hts⟩ hKN (hP.sub (ws' := [(g, .inr (3, [.int 0, .int 0, .int 0, .int 0, .int 0, .int 0, .int 0, .int 0, .ref g_sides, .ref g_grips, .ref g_wits, .ref g_says, .ref g_gives0, .ref g_gives1, .ref g_froms, .ref g_tos]))]) [1] rfl) (k_X3_exists l D cA g g_sides g_grips g_wits g_says g_gives0 g_gives1 g_froms g_tos) (tb_V tw_768 tw_741 tw_742 tw_104 tw_743) hdX3_exists ⟨rfl, rfl, Nat.le_of_ble_eq_true rfl, Nat.le_of_ble_eq_true rfl⟩ ⟨Nat.le_of_ble_eq_true rfl, Nat.le_of_ble_eq_true rfl⟩ rfl rfl rfl hl.1 rfl (Nat.le_of_ble_eq_true rfl) dX11_longest_4 (fun r_1 hr_1 => ?_)
  obtain rfl : r_1 = 0 := hr_1
  refine lv_if_eq (tgt := 23) hx hb dX11_longest_7 (by decide) (fun c_2 => ?_) (fun c_2 => absurd (by decide) c_2)
  refine lv_bipush (v := (-2)) hx hb dX11_longest_23 (by decide) ?_
  exact W.iret (v := (-2)) hx hb hr (fun t ht hW => ⟨(-2), rfl, rfl, ht⟩) (fun _ h => by cases h) dX11_longest_25
set_option maxHeartbeats 4000000 in
set_option maxRecDepth 100000 in
theorem k_X11_able (l : Launch) (D : va_G) (cA : Nat → ClassId) (h0 : Nat) (tp : Nat) (rd : Nat) (g : Nat) (ev : Nat) (im : Nat) (sl : Nat) (co : Nat) (pa : Nat) (sp : Nat) (ba : Nat) (we : Nat) (g_sides : Nat) (g_grips : Nat) (g_wits : Nat) (g_says : Nat) (g_gives0 : Nat) (g_gives1 : Nat) (g_froms : Nat) (g_tos : Nat) : Met l yX11_able (Cond.code yX11_able cX11_able 3 (some .int) :: TB) (rmd 1 0 0) (PP D cA [(h0, .inr (11, [.ref tp, .ref rd, .ref g, .ref ev, .ref im, .ref sl, .ref co, .ref pa, .ref sp, .ref ba, .ref we])), (g, .inr (3, [.int 0, .int 0, .int 0, .int 0, .int 0, .int 0, .int 0, .int 0, .ref g_sides, .ref g_grips, .ref g_wits, .ref g_says, .ref g_gives0, .ref g_gives1, .ref g_froms, .ref g_tos]))] [.ref h0]) (vp_Si (fun r => r = (-2))) 0 0 (fun _ => False) := by
  refine Met.ofW (cc := cX11_able) (maxL := 3) (ret := (some .int)) (by decide) rfl ?_
  intro p e s m args below meth c s₁ B hml hv
  obtain ⟨rfl, hP, hKN⟩ := hv
  have hx := B.exec
  have hb := B.bytes
  have hr := B.returns
  have hts : ∀ w ∈ TB, w.before _ s = true := fun w h => atoms_spec B.pre w (List.mem_cons_of_mem _ h)
  have hown : s.vm.findClass RX11 = some m.cls := findClass_of_methodNamed B.named
  have hlocks := B.notSynchronized
  have hl := lv_entry ([.ref h0]) (n := 3) (Nat.le_of_ble_eq_true rfl)
  rw [lg_entry_eq]
  generalize (lg_sl ([.ref h0]) ++ List.replicate (3 - (lg_sl ([.ref h0])).length) Slot.unset).toArray = ls at hl ⊢
  have hl : lv_has ls 3 [(0, .ref h0)] := hl
  refine lv_aload_n hx hb dX11_able_0 rfl (lv_at hl 0 rfl) ?_
  refine va_get (D := D) (ci := 11) (v := .ref g) (C := RX11) (T := TX11) (N := 11) hx hb hts inX11 hown hKN.1 hP 0 rfl rfl 2 (by decide) (hts _ tw_467) (fun _ h9 => h9) rfl dX11_able_1 ?_
  refine cpVi (rest := []) ⟨hx, hb, hml, hown, hts⟩ hKN (hP.sub (ws' := [(g, .inr (3, [.int 0, .int 0, .int 0, .int 0, .int 0, .int 0, .int 0, .int 0, .ref g_sides, .ref g_grips, .ref g_wits, .ref g_says, .ref g_gives0, .ref g_gives1, .ref g_froms, .ref g_tos]))]) [1] rfl) (k_X3_exists l D cA g g_sides g_grips g_wits g_says g_gives0 g_gives1 g_froms g_tos) (tb_V tw_768 tw_741 tw_742 tw_104 tw_743) hdX3_exists ⟨rfl, rfl, Nat.le_of_ble_eq_true rfl, Nat.le_of_ble_eq_true rfl⟩ ⟨Nat.le_of_ble_eq_true rfl, Nat.le_of_ble_eq_true rfl⟩ rfl rfl rfl hl.1 rfl (Nat.le_of_ble_eq_true rfl) dX11_able_4 (fun r_1 hr_1 => ?_)
  obtain rfl : r_1 = 0 := hr_1
  refine lv_if_ne (tgt := 13) hx hb dX11_able_7 (by decide) (fun c_2 => absurd (by decide) c_2) (fun c_2 => ?_)
  refine lv_bipush (v := (-2)) hx hb dX11_able_10 (by decide) ?_
  exact W.iret (v := (-2)) hx hb hr (fun t ht hW => ⟨(-2), rfl, rfl, ht⟩) (fun _ h => by cases h) dX11_able_12
set_option maxHeartbeats 4000000 in
set_option maxRecDepth 100000 in
theorem k_X11_soonest (l : Launch) (D : va_G) (cA : Nat → ClassId) (h0 : Nat) (tp : Nat) (rd : Nat) (g : Nat) (ev : Nat) (im : Nat) (sl : Nat) (co : Nat) (pa : Nat) (sp : Nat) (ba : Nat) (we : Nat) (g_sides : Nat) (g_grips : Nat) (g_wits : Nat) (g_says : Nat) (g_gives0 : Nat) (g_gives1 : Nat) (g_froms : Nat) (g_tos : Nat) : Met l yX11_soonest (Cond.code yX11_soonest cX11_soonest 5 (some .int) :: TB) (rmd 1 0 0) (PP D cA [(h0, .inr (11, [.ref tp, .ref rd, .ref g, .ref ev, .ref im, .ref sl, .ref co, .ref pa, .ref sp, .ref ba, .ref we])), (g, .inr (3, [.int 0, .int 0, .int 0, .int 0, .int 0, .int 0, .int 0, .int 0, .ref g_sides, .ref g_grips, .ref g_wits, .ref g_says, .ref g_gives0, .ref g_gives1, .ref g_froms, .ref g_tos]))] [.ref h0]) (vp_Si (fun r => r = (-2))) 0 0 (fun _ => False) := by
  refine Met.ofW (cc := cX11_soonest) (maxL := 5) (ret := (some .int)) (by decide) rfl ?_
  intro p e s m args below meth c s₁ B hml hv
  obtain ⟨rfl, hP, hKN⟩ := hv
  have hx := B.exec
  have hb := B.bytes
  have hr := B.returns
  have hts : ∀ w ∈ TB, w.before _ s = true := fun w h => atoms_spec B.pre w (List.mem_cons_of_mem _ h)
  have hown : s.vm.findClass RX11 = some m.cls := findClass_of_methodNamed B.named
  have hlocks := B.notSynchronized
  have hl := lv_entry ([.ref h0]) (n := 5) (Nat.le_of_ble_eq_true rfl)
  rw [lg_entry_eq]
  generalize (lg_sl ([.ref h0]) ++ List.replicate (5 - (lg_sl ([.ref h0])).length) Slot.unset).toArray = ls at hl ⊢
  have hl : lv_has ls 5 [(0, .ref h0)] := hl
  refine lv_aload_n hx hb dX11_soonest_0 rfl (lv_at hl 0 rfl) ?_
  refine va_get (D := D) (ci := 11) (v := .ref g) (C := RX11) (T := TX11) (N := 11) hx hb hts inX11 hown hKN.1 hP 0 rfl rfl 2 (by decide) (hts _ tw_467) (fun _ h9 => h9) rfl dX11_soonest_1 ?_
  refine cpVi (rest := []) ⟨hx, hb, hml, hown, hts⟩ hKN (hP.sub (ws' := [(g, .inr (3, [.int 0, .int 0, .int 0, .int 0, .int 0, .int 0, .int 0, .int 0, .ref g_sides, .ref g_grips, .ref g_wits, .ref g_says, .ref g_gives0, .ref g_gives1, .ref g_froms, .ref g_tos]))]) [1] rfl) (k_X3_exists l D cA g g_sides g_grips g_wits g_says g_gives0 g_gives1 g_froms g_tos) (tb_V tw_768 tw_741 tw_742 tw_104 tw_743) hdX3_exists ⟨rfl, rfl, Nat.le_of_ble_eq_true rfl, Nat.le_of_ble_eq_true rfl⟩ ⟨Nat.le_of_ble_eq_true rfl, Nat.le_of_ble_eq_true rfl⟩ rfl rfl rfl hl.1 rfl (Nat.le_of_ble_eq_true rfl) dX11_soonest_4 (fun r_1 hr_1 => ?_)
  obtain rfl : r_1 = 0 := hr_1
  refine lv_if_ne (tgt := 13) hx hb dX11_soonest_7 (by decide) (fun c_2 => absurd (by decide) c_2) (fun c_2 => ?_)
  refine lv_bipush (v := (-2)) hx hb dX11_soonest_10 (by decide) ?_
  exact W.iret (v := (-2)) hx hb hr (fun t ht hW => ⟨(-2), rfl, rfl, ht⟩) (fun _ h => by cases h) dX11_soonest_12
set_option maxHeartbeats 4000000 in
set_option maxRecDepth 100000 in
theorem k_X11_often (l : Launch) (D : va_G) (cA : Nat → ClassId) (h0 : Nat) (tp : Nat) (rd : Nat) (g : Nat) (ev : Nat) (im : Nat) (sl : Nat) (co : Nat) (pa : Nat) (sp : Nat) (ba : Nat) (we : Nat) (g_sides : Nat) (g_grips : Nat) (g_wits : Nat) (g_says : Nat) (g_gives0 : Nat) (g_gives1 : Nat) (g_froms : Nat) (g_tos : Nat) (p0 : Int32) : Met l yX11_often (Cond.code yX11_often cX11_often 6 (some .int) :: TB) (rmd 1 0 0) (PP D cA [(h0, .inr (11, [.ref tp, .ref rd, .ref g, .ref ev, .ref im, .ref sl, .ref co, .ref pa, .ref sp, .ref ba, .ref we])), (g, .inr (3, [.int 0, .int 0, .int 0, .int 0, .int 0, .int 0, .int 0, .int 0, .ref g_sides, .ref g_grips, .ref g_wits, .ref g_says, .ref g_gives0, .ref g_gives1, .ref g_froms, .ref g_tos]))] [.ref h0, .int p0]) (vp_Si (fun r => r = (-2))) 0 0 (fun _ => False) := by
  refine Met.ofW (cc := cX11_often) (maxL := 6) (ret := (some .int)) (by decide) rfl ?_
  intro p e s m args below meth c s₁ B hml hv
  obtain ⟨rfl, hP, hKN⟩ := hv
  have hx := B.exec
  have hb := B.bytes
  have hr := B.returns
  have hts : ∀ w ∈ TB, w.before _ s = true := fun w h => atoms_spec B.pre w (List.mem_cons_of_mem _ h)
  have hown : s.vm.findClass RX11 = some m.cls := findClass_of_methodNamed B.named
  have hlocks := B.notSynchronized
  have hl := lv_entry ([.ref h0, .int p0]) (n := 6) (Nat.le_of_ble_eq_true rfl)
  rw [lg_entry_eq]
  generalize (lg_sl ([.ref h0, .int p0]) ++ List.replicate (6 - (lg_sl ([.ref h0, .int p0])).length) Slot.unset).toArray = ls at hl ⊢
  have hl : lv_has ls 6 [(0, .ref h0), (1, .int p0)] := hl
  refine lv_aload_n hx hb dX11_often_0 rfl (lv_at hl 0 rfl) ?_
  refine va_get (D := D) (ci := 11) (v := .ref g) (C := RX11) (T := TX11) (N := 11) hx hb hts inX11 hown hKN.1 hP 0 rfl rfl 2 (by decide) (hts _ tw_467) (fun _ h9 => h9) rfl dX11_often_1 ?_
  refine cpVi (rest := []) ⟨hx, hb, hml, hown, hts⟩ hKN (hP.sub (ws' := [(g, .inr (3, [.int 0, .int 0, .int 0, .int 0, .int 0, .int 0, .int 0, .int 0, .ref g_sides, .ref g_grips, .ref g_wits, .ref g_says, .ref g_gives0, .ref g_gives1, .ref g_froms, .ref g_tos]))]) [1] rfl) (k_X3_exists l D cA g g_sides g_grips g_wits g_says g_gives0 g_gives1 g_froms g_tos) (tb_V tw_768 tw_741 tw_742 tw_104 tw_743) hdX3_exists ⟨rfl, rfl, Nat.le_of_ble_eq_true rfl, Nat.le_of_ble_eq_true rfl⟩ ⟨Nat.le_of_ble_eq_true rfl, Nat.le_of_ble_eq_true rfl⟩ rfl rfl rfl hl.1 rfl (Nat.le_of_ble_eq_true rfl) dX11_often_4 (fun r_1 hr_1 => ?_)
  obtain rfl : r_1 = 0 := hr_1
  refine lv_if_eq (tgt := 21) hx hb dX11_often_7 (by decide) (fun c_2 => ?_) (fun c_2 => absurd (by decide) c_2)
  refine lv_bipush (v := (-2)) hx hb dX11_often_21 (by decide) ?_
  exact W.iret (v := (-2)) hx hb hr (fun t ht hW => ⟨(-2), rfl, rfl, ht⟩) (fun _ h => by cases h) dX11_often_23
set_option maxHeartbeats 4000000 in
set_option maxRecDepth 100000 in
theorem k_X11_kept (l : Launch) (D : va_G) (cA : Nat → ClassId) (h0 : Nat) (tp : Nat) (rd : Nat) (g : Nat) (ev : Nat) (im : Nat) (sl : Nat) (co : Nat) (pa : Nat) (sp : Nat) (ba : Nat) (we : Nat) (g_sides : Nat) (g_grips : Nat) (g_wits : Nat) (g_says : Nat) (g_gives0 : Nat) (g_gives1 : Nat) (g_froms : Nat) (g_tos : Nat) : Met l yX11_kept (Cond.code yX11_kept cX11_kept 1 (some .int) :: TB) (rmd 1 0 0) (PP D cA [(h0, .inr (11, [.ref tp, .ref rd, .ref g, .ref ev, .ref im, .ref sl, .ref co, .ref pa, .ref sp, .ref ba, .ref we])), (g, .inr (3, [.int 0, .int 0, .int 0, .int 0, .int 0, .int 0, .int 0, .int 0, .ref g_sides, .ref g_grips, .ref g_wits, .ref g_says, .ref g_gives0, .ref g_gives1, .ref g_froms, .ref g_tos]))] [.ref h0]) (vp_Si (fun r => r = (-2))) 0 0 (fun _ => False) := by
  refine Met.ofW (cc := cX11_kept) (maxL := 1) (ret := (some .int)) (by decide) rfl ?_
  intro p e s m args below meth c s₁ B hml hv
  obtain ⟨rfl, hP, hKN⟩ := hv
  have hx := B.exec
  have hb := B.bytes
  have hr := B.returns
  have hts : ∀ w ∈ TB, w.before _ s = true := fun w h => atoms_spec B.pre w (List.mem_cons_of_mem _ h)
  have hown : s.vm.findClass RX11 = some m.cls := findClass_of_methodNamed B.named
  have hlocks := B.notSynchronized
  have hl := lv_entry ([.ref h0]) (n := 1) (Nat.le_of_ble_eq_true rfl)
  rw [lg_entry_eq]
  generalize (lg_sl ([.ref h0]) ++ List.replicate (1 - (lg_sl ([.ref h0])).length) Slot.unset).toArray = ls at hl ⊢
  have hl : lv_has ls 1 [(0, .ref h0)] := hl
  refine lv_aload_n hx hb dX11_kept_0 rfl (lv_at hl 0 rfl) ?_
  refine va_get (D := D) (ci := 11) (v := .ref g) (C := RX11) (T := TX11) (N := 11) hx hb hts inX11 hown hKN.1 hP 0 rfl rfl 2 (by decide) (hts _ tw_467) (fun _ h9 => h9) rfl dX11_kept_1 ?_
  refine cpVi (rest := []) ⟨hx, hb, hml, hown, hts⟩ hKN (hP.sub (ws' := [(g, .inr (3, [.int 0, .int 0, .int 0, .int 0, .int 0, .int 0, .int 0, .int 0, .ref g_sides, .ref g_grips, .ref g_wits, .ref g_says, .ref g_gives0, .ref g_gives1, .ref g_froms, .ref g_tos]))]) [1] rfl) (k_X3_exists l D cA g g_sides g_grips g_wits g_says g_gives0 g_gives1 g_froms g_tos) (tb_V tw_768 tw_741 tw_742 tw_104 tw_743) hdX3_exists ⟨rfl, rfl, Nat.le_of_ble_eq_true rfl, Nat.le_of_ble_eq_true rfl⟩ ⟨Nat.le_of_ble_eq_true rfl, Nat.le_of_ble_eq_true rfl⟩ rfl rfl rfl hl.1 rfl (Nat.le_of_ble_eq_true rfl) dX11_kept_4 (fun r_1 hr_1 => ?_)
  obtain rfl : r_1 = 0 := hr_1
  refine lv_if_eq (tgt := 20) hx hb dX11_kept_7 (by decide) (fun c_2 => ?_) (fun c_2 => absurd (by decide) c_2)
  refine lv_bipush (v := (-2)) hx hb dX11_kept_20 (by decide) ?_
  exact W.iret (v := (-2)) hx hb hr (fun t ht hW => ⟨(-2), rfl, rfl, ht⟩) (fun _ h => by cases h) dX11_kept_22
set_option maxHeartbeats 4000000 in
set_option maxRecDepth 100000 in
theorem k_X11_meet (l : Launch) (D : va_G) (cA : Nat → ClassId) (h0 : Nat) (tp : Nat) (rd : Nat) (g : Nat) (ev : Nat) (im : Nat) (sl : Nat) (co : Nat) (pa : Nat) (sp : Nat) (ba : Nat) (we : Nat) (g_sides : Nat) (g_grips : Nat) (g_wits : Nat) (g_says : Nat) (g_gives0 : Nat) (g_gives1 : Nat) (g_froms : Nat) (g_tos : Nat) (p0 : Int32) : Met l yX11_meet (Cond.code yX11_meet cX11_meet 2 (some .int) :: TB) (rmd 1 0 0) (PP D cA [(h0, .inr (11, [.ref tp, .ref rd, .ref g, .ref ev, .ref im, .ref sl, .ref co, .ref pa, .ref sp, .ref ba, .ref we])), (g, .inr (3, [.int 0, .int 0, .int 0, .int 0, .int 0, .int 0, .int 0, .int 0, .ref g_sides, .ref g_grips, .ref g_wits, .ref g_says, .ref g_gives0, .ref g_gives1, .ref g_froms, .ref g_tos]))] [.ref h0, .int p0]) (vp_Si (fun r => r = (-2))) 0 0 (fun _ => False) := by
  refine Met.ofW (cc := cX11_meet) (maxL := 2) (ret := (some .int)) (by decide) rfl ?_
  intro p e s m args below meth c s₁ B hml hv
  obtain ⟨rfl, hP, hKN⟩ := hv
  have hx := B.exec
  have hb := B.bytes
  have hr := B.returns
  have hts : ∀ w ∈ TB, w.before _ s = true := fun w h => atoms_spec B.pre w (List.mem_cons_of_mem _ h)
  have hown : s.vm.findClass RX11 = some m.cls := findClass_of_methodNamed B.named
  have hlocks := B.notSynchronized
  have hl := lv_entry ([.ref h0, .int p0]) (n := 2) (Nat.le_of_ble_eq_true rfl)
  rw [lg_entry_eq]
  generalize (lg_sl ([.ref h0, .int p0]) ++ List.replicate (2 - (lg_sl ([.ref h0, .int p0])).length) Slot.unset).toArray = ls at hl ⊢
  have hl : lv_has ls 2 [(0, .ref h0), (1, .int p0)] := hl
  refine lv_aload_n hx hb dX11_meet_0 rfl (lv_at hl 0 rfl) ?_
  refine va_get (D := D) (ci := 11) (v := .ref g) (C := RX11) (T := TX11) (N := 11) hx hb hts inX11 hown hKN.1 hP 0 rfl rfl 2 (by decide) (hts _ tw_467) (fun _ h9 => h9) rfl dX11_meet_1 ?_
  refine cpVi (rest := []) ⟨hx, hb, hml, hown, hts⟩ hKN (hP.sub (ws' := [(g, .inr (3, [.int 0, .int 0, .int 0, .int 0, .int 0, .int 0, .int 0, .int 0, .ref g_sides, .ref g_grips, .ref g_wits, .ref g_says, .ref g_gives0, .ref g_gives1, .ref g_froms, .ref g_tos]))]) [1] rfl) (k_X3_exists l D cA g g_sides g_grips g_wits g_says g_gives0 g_gives1 g_froms g_tos) (tb_V tw_768 tw_741 tw_742 tw_104 tw_743) hdX3_exists ⟨rfl, rfl, Nat.le_of_ble_eq_true rfl, Nat.le_of_ble_eq_true rfl⟩ ⟨Nat.le_of_ble_eq_true rfl, Nat.le_of_ble_eq_true rfl⟩ rfl rfl rfl hl.1 rfl (Nat.le_of_ble_eq_true rfl) dX11_meet_4 (fun r_1 hr_1 => ?_)
  obtain rfl : r_1 = 0 := hr_1
  refine lv_if_eq (tgt := 21) hx hb dX11_meet_7 (by decide) (fun c_2 => ?_) (fun c_2 => absurd (by decide) c_2)
  refine lv_bipush (v := (-2)) hx hb dX11_meet_21 (by decide) ?_
  exact W.iret (v := (-2)) hx hb hr (fun t ht hW => ⟨(-2), rfl, rfl, ht⟩) (fun _ h => by cases h) dX11_meet_23
set_option maxHeartbeats 4000000 in
set_option maxRecDepth 100000 in
theorem k_X11_pushes (l : Launch) (D : va_G) (cA : Nat → ClassId) (h0 : Nat) (tp : Nat) (rd : Nat) (g : Nat) (ev : Nat) (im : Nat) (sl : Nat) (co : Nat) (pa : Nat) (sp : Nat) (ba : Nat) (we : Nat) (g_sides : Nat) (g_grips : Nat) (g_wits : Nat) (g_says : Nat) (g_gives0 : Nat) (g_gives1 : Nat) (g_froms : Nat) (g_tos : Nat) (p0 : Int32) : Met l yX11_pushes (Cond.code yX11_pushes cX11_pushes 3 (some .int) :: TB) (rmd 1 0 0) (PP D cA [(h0, .inr (11, [.ref tp, .ref rd, .ref g, .ref ev, .ref im, .ref sl, .ref co, .ref pa, .ref sp, .ref ba, .ref we])), (g, .inr (3, [.int 0, .int 0, .int 0, .int 0, .int 0, .int 0, .int 0, .int 0, .ref g_sides, .ref g_grips, .ref g_wits, .ref g_says, .ref g_gives0, .ref g_gives1, .ref g_froms, .ref g_tos]))] [.ref h0, .int p0]) (vp_Si (fun r => r = (-2))) 0 0 (fun _ => False) := by
  refine Met.ofW (cc := cX11_pushes) (maxL := 3) (ret := (some .int)) (by decide) rfl ?_
  intro p e s m args below meth c s₁ B hml hv
  obtain ⟨rfl, hP, hKN⟩ := hv
  have hx := B.exec
  have hb := B.bytes
  have hr := B.returns
  have hts : ∀ w ∈ TB, w.before _ s = true := fun w h => atoms_spec B.pre w (List.mem_cons_of_mem _ h)
  have hown : s.vm.findClass RX11 = some m.cls := findClass_of_methodNamed B.named
  have hlocks := B.notSynchronized
  have hl := lv_entry ([.ref h0, .int p0]) (n := 3) (Nat.le_of_ble_eq_true rfl)
  rw [lg_entry_eq]
  generalize (lg_sl ([.ref h0, .int p0]) ++ List.replicate (3 - (lg_sl ([.ref h0, .int p0])).length) Slot.unset).toArray = ls at hl ⊢
  have hl : lv_has ls 3 [(0, .ref h0), (1, .int p0)] := hl
  refine lv_aload_n hx hb dX11_pushes_0 rfl (lv_at hl 0 rfl) ?_
  refine va_get (D := D) (ci := 11) (v := .ref g) (C := RX11) (T := TX11) (N := 11) hx hb hts inX11 hown hKN.1 hP 0 rfl rfl 2 (by decide) (hts _ tw_467) (fun _ h9 => h9) rfl dX11_pushes_1 ?_
  refine cpVi (rest := []) ⟨hx, hb, hml, hown, hts⟩ hKN (hP.sub (ws' := [(g, .inr (3, [.int 0, .int 0, .int 0, .int 0, .int 0, .int 0, .int 0, .int 0, .ref g_sides, .ref g_grips, .ref g_wits, .ref g_says, .ref g_gives0, .ref g_gives1, .ref g_froms, .ref g_tos]))]) [1] rfl) (k_X3_exists l D cA g g_sides g_grips g_wits g_says g_gives0 g_gives1 g_froms g_tos) (tb_V tw_768 tw_741 tw_742 tw_104 tw_743) hdX3_exists ⟨rfl, rfl, Nat.le_of_ble_eq_true rfl, Nat.le_of_ble_eq_true rfl⟩ ⟨Nat.le_of_ble_eq_true rfl, Nat.le_of_ble_eq_true rfl⟩ rfl rfl rfl hl.1 rfl (Nat.le_of_ble_eq_true rfl) dX11_pushes_4 (fun r_1 hr_1 => ?_)
  obtain rfl : r_1 = 0 := hr_1
  refine lv_if_eq (tgt := 21) hx hb dX11_pushes_7 (by decide) (fun c_2 => ?_) (fun c_2 => absurd (by decide) c_2)
  refine lv_bipush (v := (-2)) hx hb dX11_pushes_21 (by decide) ?_
  exact W.iret (v := (-2)) hx hb hr (fun t ht hW => ⟨(-2), rfl, rfl, ht⟩) (fun _ h => by cases h) dX11_pushes_23
set_option maxHeartbeats 4000000 in
set_option maxRecDepth 100000 in
theorem k_X11_hold (l : Launch) (D : va_G) (cA : Nat → ClassId) (h0 : Nat) (tp : Nat) (rd : Nat) (g : Nat) (ev : Nat) (im : Nat) (sl : Nat) (co : Nat) (pa : Nat) (sp : Nat) (ba : Nat) (we : Nat) (g_sides : Nat) (g_grips : Nat) (g_wits : Nat) (g_says : Nat) (g_gives0 : Nat) (g_gives1 : Nat) (g_froms : Nat) (g_tos : Nat) (p0 : Int32) (p1 : Int32) : Met l yX11_hold (Cond.code yX11_hold cX11_hold 3 (some .int) :: TB) (rmd 2 0 0) (PP D cA [(h0, .inr (11, [.ref tp, .ref rd, .ref g, .ref ev, .ref im, .ref sl, .ref co, .ref pa, .ref sp, .ref ba, .ref we])), (g, .inr (3, [.int 0, .int 0, .int 0, .int 0, .int 0, .int 0, .int 0, .int 0, .ref g_sides, .ref g_grips, .ref g_wits, .ref g_says, .ref g_gives0, .ref g_gives1, .ref g_froms, .ref g_tos]))] [.ref h0, .int p0, .int p1]) (vp_Si (fun r => r = (-2))) 0 0 (fun _ => False) := by
  refine Met.ofW (cc := cX11_hold) (maxL := 3) (ret := (some .int)) (by decide) rfl ?_
  intro p e s m args below meth c s₁ B hml hv
  obtain ⟨rfl, hP, hKN⟩ := hv
  have hx := B.exec
  have hb := B.bytes
  have hr := B.returns
  have hts : ∀ w ∈ TB, w.before _ s = true := fun w h => atoms_spec B.pre w (List.mem_cons_of_mem _ h)
  have hown : s.vm.findClass RX11 = some m.cls := findClass_of_methodNamed B.named
  have hlocks := B.notSynchronized
  have hl := lv_entry ([.ref h0, .int p0, .int p1]) (n := 3) (Nat.le_of_ble_eq_true rfl)
  rw [lg_entry_eq]
  generalize (lg_sl ([.ref h0, .int p0, .int p1]) ++ List.replicate (3 - (lg_sl ([.ref h0, .int p0, .int p1])).length) Slot.unset).toArray = ls at hl ⊢
  have hl : lv_has ls 3 [(0, .ref h0), (1, .int p0), (2, .int p1)] := hl
  refine lv_aload_n hx hb dX11_hold_0 rfl (lv_at hl 0 rfl) ?_
  refine va_get (D := D) (ci := 11) (v := .ref g) (C := RX11) (T := TX11) (N := 11) hx hb hts inX11 hown hKN.1 hP 0 rfl rfl 2 (by decide) (hts _ tw_467) (fun _ h9 => h9) rfl dX11_hold_1 ?_
  refine lv_iload_n hx hb dX11_hold_4 rfl (lv_at hl 1 rfl) ?_
  refine lv_iload_n hx hb dX11_hold_5 rfl (lv_at hl 2 rfl) ?_
  refine cpVi (rest := []) ⟨hx, hb, hml, hown, hts⟩ hKN (hP.sub (ws' := [(g, .inr (3, [.int 0, .int 0, .int 0, .int 0, .int 0, .int 0, .int 0, .int 0, .ref g_sides, .ref g_grips, .ref g_wits, .ref g_says, .ref g_gives0, .ref g_gives1, .ref g_froms, .ref g_tos]))]) [1] rfl) (k_X3_holdOrRefusal l D cA g g_sides g_grips g_wits g_says g_gives0 g_gives1 g_froms g_tos p0 p1) (tb_V tw_843 tw_844 tw_845 tw_104 tw_846) hdX3_holdOrRefusal ⟨rfl, rfl, Nat.le_of_ble_eq_true rfl, Nat.le_of_ble_eq_true rfl⟩ ⟨Nat.le_of_ble_eq_true rfl, Nat.le_of_ble_eq_true rfl⟩ rfl rfl rfl hl.1 rfl (Nat.le_of_ble_eq_true rfl) dX11_hold_6 (fun r_1 hr_1 => ?_)
  obtain rfl : r_1 = (-2) := hr_1
  exact W.iret (v := (-2)) hx hb hr (fun t ht hW => ⟨(-2), rfl, rfl, ht⟩) (fun _ h => by cases h) dX11_hold_9
set_option maxHeartbeats 4000000 in
set_option maxRecDepth 100000 in
theorem k_X11_pair (l : Launch) (D : va_G) (cA : Nat → ClassId) (h0 : Nat) (tp : Nat) (rd : Nat) (g : Nat) (ev : Nat) (im : Nat) (sl : Nat) (co : Nat) (pa : Nat) (sp : Nat) (ba : Nat) (we : Nat) (g_sides : Nat) (g_grips : Nat) (g_wits : Nat) (g_says : Nat) (g_gives0 : Nat) (g_gives1 : Nat) (g_froms : Nat) (g_tos : Nat) : Met l yX11_pair (Cond.code yX11_pair cX11_pair 5 (some .int) :: TB) (rmd 1 0 0) (PP D cA [(h0, .inr (11, [.ref tp, .ref rd, .ref g, .ref ev, .ref im, .ref sl, .ref co, .ref pa, .ref sp, .ref ba, .ref we])), (g, .inr (3, [.int 0, .int 0, .int 0, .int 0, .int 0, .int 0, .int 0, .int 0, .ref g_sides, .ref g_grips, .ref g_wits, .ref g_says, .ref g_gives0, .ref g_gives1, .ref g_froms, .ref g_tos]))] [.ref h0]) (vp_Si (fun r => r = (-2))) 0 0 (fun _ => False) := by
  refine Met.ofW (cc := cX11_pair) (maxL := 5) (ret := (some .int)) (by decide) rfl ?_
  intro p e s m args below meth c s₁ B hml hv
  obtain ⟨rfl, hP, hKN⟩ := hv
  have hx := B.exec
  have hb := B.bytes
  have hr := B.returns
  have hts : ∀ w ∈ TB, w.before _ s = true := fun w h => atoms_spec B.pre w (List.mem_cons_of_mem _ h)
  have hown : s.vm.findClass RX11 = some m.cls := findClass_of_methodNamed B.named
  have hlocks := B.notSynchronized
  have hl := lv_entry ([.ref h0]) (n := 5) (Nat.le_of_ble_eq_true rfl)
  rw [lg_entry_eq]
  generalize (lg_sl ([.ref h0]) ++ List.replicate (5 - (lg_sl ([.ref h0])).length) Slot.unset).toArray = ls at hl ⊢
  have hl : lv_has ls 5 [(0, .ref h0)] := hl
  refine lv_aload_n hx hb dX11_pair_0 rfl (lv_at hl 0 rfl) ?_
  refine va_get (D := D) (ci := 11) (v := .ref g) (C := RX11) (T := TX11) (N := 11) hx hb hts inX11 hown hKN.1 hP 0 rfl rfl 2 (by decide) (hts _ tw_467) (fun _ h9 => h9) rfl dX11_pair_1 ?_
  refine cpVi (rest := []) ⟨hx, hb, hml, hown, hts⟩ hKN (hP.sub (ws' := [(g, .inr (3, [.int 0, .int 0, .int 0, .int 0, .int 0, .int 0, .int 0, .int 0, .ref g_sides, .ref g_grips, .ref g_wits, .ref g_says, .ref g_gives0, .ref g_gives1, .ref g_froms, .ref g_tos]))]) [1] rfl) (k_X3_exists l D cA g g_sides g_grips g_wits g_says g_gives0 g_gives1 g_froms g_tos) (tb_V tw_768 tw_741 tw_742 tw_104 tw_743) hdX3_exists ⟨rfl, rfl, Nat.le_of_ble_eq_true rfl, Nat.le_of_ble_eq_true rfl⟩ ⟨Nat.le_of_ble_eq_true rfl, Nat.le_of_ble_eq_true rfl⟩ rfl rfl rfl hl.1 rfl (Nat.le_of_ble_eq_true rfl) dX11_pair_4 (fun r_1 hr_1 => ?_)
  obtain rfl : r_1 = 0 := hr_1
  refine lv_if_ne (tgt := 13) hx hb dX11_pair_7 (by decide) (fun c_2 => absurd (by decide) c_2) (fun c_2 => ?_)
  refine lv_bipush (v := (-2)) hx hb dX11_pair_10 (by decide) ?_
  exact W.iret (v := (-2)) hx hb hr (fun t ht hW => ⟨(-2), rfl, rfl, ht⟩) (fun _ h => by cases h) dX11_pair_12
set_option maxHeartbeats 4000000 in
set_option maxRecDepth 100000 in
theorem k_X11_partner (l : Launch) (D : va_G) (cA : Nat → ClassId) (h0 : Nat) (tp : Nat) (rd : Nat) (g : Nat) (ev : Nat) (im : Nat) (sl : Nat) (co : Nat) (pa : Nat) (sp : Nat) (ba : Nat) (we : Nat) (g_sides : Nat) (g_grips : Nat) (g_wits : Nat) (g_says : Nat) (g_gives0 : Nat) (g_gives1 : Nat) (g_froms : Nat) (g_tos : Nat) (p0 : Int32) : Met l yX11_partner (Cond.code yX11_partner cX11_partner 2 (some .int) :: TB) (rmd 1 0 0) (PP D cA [(h0, .inr (11, [.ref tp, .ref rd, .ref g, .ref ev, .ref im, .ref sl, .ref co, .ref pa, .ref sp, .ref ba, .ref we])), (g, .inr (3, [.int 0, .int 0, .int 0, .int 0, .int 0, .int 0, .int 0, .int 0, .ref g_sides, .ref g_grips, .ref g_wits, .ref g_says, .ref g_gives0, .ref g_gives1, .ref g_froms, .ref g_tos]))] [.ref h0, .int p0]) (vp_Si (fun r => r = (-2))) 0 0 (fun _ => False) := by
  refine Met.ofW (cc := cX11_partner) (maxL := 2) (ret := (some .int)) (by decide) rfl ?_
  intro p e s m args below meth c s₁ B hml hv
  obtain ⟨rfl, hP, hKN⟩ := hv
  have hx := B.exec
  have hb := B.bytes
  have hr := B.returns
  have hts : ∀ w ∈ TB, w.before _ s = true := fun w h => atoms_spec B.pre w (List.mem_cons_of_mem _ h)
  have hown : s.vm.findClass RX11 = some m.cls := findClass_of_methodNamed B.named
  have hlocks := B.notSynchronized
  have hl := lv_entry ([.ref h0, .int p0]) (n := 2) (Nat.le_of_ble_eq_true rfl)
  rw [lg_entry_eq]
  generalize (lg_sl ([.ref h0, .int p0]) ++ List.replicate (2 - (lg_sl ([.ref h0, .int p0])).length) Slot.unset).toArray = ls at hl ⊢
  have hl : lv_has ls 2 [(0, .ref h0), (1, .int p0)] := hl
  refine lv_aload_n hx hb dX11_partner_0 rfl (lv_at hl 0 rfl) ?_
  refine va_get (D := D) (ci := 11) (v := .ref g) (C := RX11) (T := TX11) (N := 11) hx hb hts inX11 hown hKN.1 hP 0 rfl rfl 2 (by decide) (hts _ tw_467) (fun _ h9 => h9) rfl dX11_partner_1 ?_
  refine lv_iload_n hx hb dX11_partner_4 rfl (lv_at hl 1 rfl) ?_
  refine cpVi (rest := []) ⟨hx, hb, hml, hown, hts⟩ hKN (hP.sub (ws' := [(g, .inr (3, [.int 0, .int 0, .int 0, .int 0, .int 0, .int 0, .int 0, .int 0, .ref g_sides, .ref g_grips, .ref g_wits, .ref g_says, .ref g_gives0, .ref g_gives1, .ref g_froms, .ref g_tos]))]) [1] rfl) (k_X3_hasMan l D cA g g_sides g_grips g_wits g_says g_gives0 g_gives1 g_froms g_tos p0) (tb_V tw_698 tw_699 tw_700 tw_104 tw_701) hdX3_hasMan ⟨rfl, rfl, Nat.le_of_ble_eq_true rfl, Nat.le_of_ble_eq_true rfl⟩ ⟨Nat.le_of_ble_eq_true rfl, Nat.le_of_ble_eq_true rfl⟩ rfl rfl rfl hl.1 rfl (Nat.le_of_ble_eq_true rfl) dX11_partner_5 (fun r_1 hr_1 => ?_)
  obtain rfl : r_1 = 0 := hr_1
  refine lv_if_eq (tgt := 22) hx hb dX11_partner_8 (by decide) (fun c_2 => ?_) (fun c_2 => absurd (by decide) c_2)
  refine lv_bipush (v := (-2)) hx hb dX11_partner_22 (by decide) ?_
  exact W.iret (v := (-2)) hx hb hr (fun t ht hW => ⟨(-2), rfl, rfl, ht⟩) (fun _ h => by cases h) dX11_partner_24
set_option maxHeartbeats 4000000 in
set_option maxRecDepth 100000 in
theorem k_X11_strong (l : Launch) (D : va_G) (cA : Nat → ClassId) (h0 : Nat) (tp : Nat) (rd : Nat) (g : Nat) (ev : Nat) (im : Nat) (sl : Nat) (co : Nat) (pa : Nat) (sp : Nat) (ba : Nat) (we : Nat) (g_sides : Nat) (g_grips : Nat) (g_wits : Nat) (g_says : Nat) (g_gives0 : Nat) (g_gives1 : Nat) (g_froms : Nat) (g_tos : Nat) (p0 : Int32) : Met l yX11_strong (Cond.code yX11_strong cX11_strong 5 (some .int) :: TB) (rmd 2 0 0) (PP D cA [(h0, .inr (11, [.ref tp, .ref rd, .ref g, .ref ev, .ref im, .ref sl, .ref co, .ref pa, .ref sp, .ref ba, .ref we])), (g, .inr (3, [.int 0, .int 0, .int 0, .int 0, .int 0, .int 0, .int 0, .int 0, .ref g_sides, .ref g_grips, .ref g_wits, .ref g_says, .ref g_gives0, .ref g_gives1, .ref g_froms, .ref g_tos]))] [.ref h0, .int p0]) (vp_Si (fun r => r = (-2))) 0 0 (fun _ => False) := by
  refine Met.ofW (cc := cX11_strong) (maxL := 5) (ret := (some .int)) (by decide) rfl ?_
  intro p e s m args below meth c s₁ B hml hv
  obtain ⟨rfl, hP, hKN⟩ := hv
  have hx := B.exec
  have hb := B.bytes
  have hr := B.returns
  have hts : ∀ w ∈ TB, w.before _ s = true := fun w h => atoms_spec B.pre w (List.mem_cons_of_mem _ h)
  have hown : s.vm.findClass RX11 = some m.cls := findClass_of_methodNamed B.named
  have hlocks := B.notSynchronized
  have hl := lv_entry ([.ref h0, .int p0]) (n := 5) (Nat.le_of_ble_eq_true rfl)
  rw [lg_entry_eq]
  generalize (lg_sl ([.ref h0, .int p0]) ++ List.replicate (5 - (lg_sl ([.ref h0, .int p0])).length) Slot.unset).toArray = ls at hl ⊢
  have hl : lv_has ls 5 [(0, .ref h0), (1, .int p0)] := hl
  refine lv_aload_n hx hb dX11_strong_0 rfl (lv_at hl 0 rfl) ?_
  refine va_get (D := D) (ci := 11) (v := .ref g) (C := RX11) (T := TX11) (N := 11) hx hb hts inX11 hown hKN.1 hP 0 rfl rfl 2 (by decide) (hts _ tw_467) (fun _ h9 => h9) rfl dX11_strong_1 ?_
  refine lv_iload_n hx hb dX11_strong_4 rfl (lv_at hl 1 rfl) ?_
  refine cpVi (rest := []) ⟨hx, hb, hml, hown, hts⟩ hKN (hP.sub (ws' := [(g, .inr (3, [.int 0, .int 0, .int 0, .int 0, .int 0, .int 0, .int 0, .int 0, .ref g_sides, .ref g_grips, .ref g_wits, .ref g_says, .ref g_gives0, .ref g_gives1, .ref g_froms, .ref g_tos]))]) [1] rfl) (k_X3_hasSide l D cA g g_sides g_grips g_wits g_says g_gives0 g_gives1 g_froms g_tos p0) (tb_V tw_736 tw_737 tw_738 tw_104 tw_739) hdX3_hasSide ⟨rfl, rfl, Nat.le_of_ble_eq_true rfl, Nat.le_of_ble_eq_true rfl⟩ ⟨Nat.le_of_ble_eq_true rfl, Nat.le_of_ble_eq_true rfl⟩ rfl rfl rfl hl.1 rfl (Nat.le_of_ble_eq_true rfl) dX11_strong_5 (fun r_1 hr_1 => ?_)
  obtain rfl : r_1 = 0 := hr_1
  refine lv_if_ne (tgt := 14) hx hb dX11_strong_8 (by decide) (fun c_2 => absurd (by decide) c_2) (fun c_2 => ?_)
  refine lv_bipush (v := (-2)) hx hb dX11_strong_11 (by decide) ?_
  exact W.iret (v := (-2)) hx hb hr (fun t ht hW => ⟨(-2), rfl, rfl, ht⟩) (fun _ h => by cases h) dX11_strong_13
set_option maxHeartbeats 4000000 in
set_option maxRecDepth 100000 in
theorem k_X11_weak (l : Launch) (D : va_G) (cA : Nat → ClassId) (h0 : Nat) (tp : Nat) (rd : Nat) (g : Nat) (ev : Nat) (im : Nat) (sl : Nat) (co : Nat) (pa : Nat) (sp : Nat) (ba : Nat) (we : Nat) (g_sides : Nat) (g_grips : Nat) (g_wits : Nat) (g_says : Nat) (g_gives0 : Nat) (g_gives1 : Nat) (g_froms : Nat) (g_tos : Nat) (p0 : Int32) : Met l yX11_weak (Cond.code yX11_weak cX11_weak 5 (some .int) :: TB) (rmd 2 0 0) (PP D cA [(h0, .inr (11, [.ref tp, .ref rd, .ref g, .ref ev, .ref im, .ref sl, .ref co, .ref pa, .ref sp, .ref ba, .ref we])), (g, .inr (3, [.int 0, .int 0, .int 0, .int 0, .int 0, .int 0, .int 0, .int 0, .ref g_sides, .ref g_grips, .ref g_wits, .ref g_says, .ref g_gives0, .ref g_gives1, .ref g_froms, .ref g_tos]))] [.ref h0, .int p0]) (vp_Si (fun r => r = (-2))) 0 0 (fun _ => False) := by
  refine Met.ofW (cc := cX11_weak) (maxL := 5) (ret := (some .int)) (by decide) rfl ?_
  intro p e s m args below meth c s₁ B hml hv
  obtain ⟨rfl, hP, hKN⟩ := hv
  have hx := B.exec
  have hb := B.bytes
  have hr := B.returns
  have hts : ∀ w ∈ TB, w.before _ s = true := fun w h => atoms_spec B.pre w (List.mem_cons_of_mem _ h)
  have hown : s.vm.findClass RX11 = some m.cls := findClass_of_methodNamed B.named
  have hlocks := B.notSynchronized
  have hl := lv_entry ([.ref h0, .int p0]) (n := 5) (Nat.le_of_ble_eq_true rfl)
  rw [lg_entry_eq]
  generalize (lg_sl ([.ref h0, .int p0]) ++ List.replicate (5 - (lg_sl ([.ref h0, .int p0])).length) Slot.unset).toArray = ls at hl ⊢
  have hl : lv_has ls 5 [(0, .ref h0), (1, .int p0)] := hl
  refine lv_aload_n hx hb dX11_weak_0 rfl (lv_at hl 0 rfl) ?_
  refine va_get (D := D) (ci := 11) (v := .ref g) (C := RX11) (T := TX11) (N := 11) hx hb hts inX11 hown hKN.1 hP 0 rfl rfl 2 (by decide) (hts _ tw_467) (fun _ h9 => h9) rfl dX11_weak_1 ?_
  refine lv_iload_n hx hb dX11_weak_4 rfl (lv_at hl 1 rfl) ?_
  refine cpVi (rest := []) ⟨hx, hb, hml, hown, hts⟩ hKN (hP.sub (ws' := [(g, .inr (3, [.int 0, .int 0, .int 0, .int 0, .int 0, .int 0, .int 0, .int 0, .ref g_sides, .ref g_grips, .ref g_wits, .ref g_says, .ref g_gives0, .ref g_gives1, .ref g_froms, .ref g_tos]))]) [1] rfl) (k_X3_hasSide l D cA g g_sides g_grips g_wits g_says g_gives0 g_gives1 g_froms g_tos p0) (tb_V tw_736 tw_737 tw_738 tw_104 tw_739) hdX3_hasSide ⟨rfl, rfl, Nat.le_of_ble_eq_true rfl, Nat.le_of_ble_eq_true rfl⟩ ⟨Nat.le_of_ble_eq_true rfl, Nat.le_of_ble_eq_true rfl⟩ rfl rfl rfl hl.1 rfl (Nat.le_of_ble_eq_true rfl) dX11_weak_5 (fun r_1 hr_1 => ?_)
  obtain rfl : r_1 = 0 := hr_1
  refine lv_if_ne (tgt := 14) hx hb dX11_weak_8 (by decide) (fun c_2 => absurd (by decide) c_2) (fun c_2 => ?_)
  refine lv_bipush (v := (-2)) hx hb dX11_weak_11 (by decide) ?_
  exact W.iret (v := (-2)) hx hb hr (fun t ht hW => ⟨(-2), rfl, rfl, ht⟩) (fun _ h => by cases h) dX11_weak_13
set_option maxHeartbeats 4000000 in
set_option maxRecDepth 100000 in
theorem k_X11_match (l : Launch) (D : va_G) (cA : Nat → ClassId) (h0 : Nat) (tp : Nat) (rd : Nat) (g : Nat) (ev : Nat) (im : Nat) (sl : Nat) (co : Nat) (pa : Nat) (sp : Nat) (ba : Nat) (we : Nat) (g_sides : Nat) (g_grips : Nat) (g_wits : Nat) (g_says : Nat) (g_gives0 : Nat) (g_gives1 : Nat) (g_froms : Nat) (g_tos : Nat) : Met l yX11_match (Cond.code yX11_match cX11_match 1 (some .int) :: TB) (rmd 1 0 0) (PP D cA [(h0, .inr (11, [.ref tp, .ref rd, .ref g, .ref ev, .ref im, .ref sl, .ref co, .ref pa, .ref sp, .ref ba, .ref we])), (g, .inr (3, [.int 0, .int 0, .int 0, .int 0, .int 0, .int 0, .int 0, .int 0, .ref g_sides, .ref g_grips, .ref g_wits, .ref g_says, .ref g_gives0, .ref g_gives1, .ref g_froms, .ref g_tos]))] [.ref h0]) (vp_Si (fun r => r = (-2))) 0 0 (fun _ => False) := by
  refine Met.ofW (cc := cX11_match) (maxL := 1) (ret := (some .int)) (by decide) rfl ?_
  intro p e s m args below meth c s₁ B hml hv
  obtain ⟨rfl, hP, hKN⟩ := hv
  have hx := B.exec
  have hb := B.bytes
  have hr := B.returns
  have hts : ∀ w ∈ TB, w.before _ s = true := fun w h => atoms_spec B.pre w (List.mem_cons_of_mem _ h)
  have hown : s.vm.findClass RX11 = some m.cls := findClass_of_methodNamed B.named
  have hlocks := B.notSynchronized
  have hl := lv_entry ([.ref h0]) (n := 1) (Nat.le_of_ble_eq_true rfl)
  rw [lg_entry_eq]
  generalize (lg_sl ([.ref h0]) ++ List.replicate (1 - (lg_sl ([.ref h0])).length) Slot.unset).toArray = ls at hl ⊢
  have hl : lv_has ls 1 [(0, .ref h0)] := hl
  refine lv_aload_n hx hb dX11_match_0 rfl (lv_at hl 0 rfl) ?_
  refine va_get (D := D) (ci := 11) (v := .ref g) (C := RX11) (T := TX11) (N := 11) hx hb hts inX11 hown hKN.1 hP 0 rfl rfl 2 (by decide) (hts _ tw_467) (fun _ h9 => h9) rfl dX11_match_1 ?_
  refine cpVi (rest := []) ⟨hx, hb, hml, hown, hts⟩ hKN (hP.sub (ws' := [(g, .inr (3, [.int 0, .int 0, .int 0, .int 0, .int 0, .int 0, .int 0, .int 0, .ref g_sides, .ref g_grips, .ref g_wits, .ref g_says, .ref g_gives0, .ref g_gives1, .ref g_froms, .ref g_tos]))]) [1] rfl) (k_X3_exists l D cA g g_sides g_grips g_wits g_says g_gives0 g_gives1 g_froms g_tos) (tb_V tw_768 tw_741 tw_742 tw_104 tw_743) hdX3_exists ⟨rfl, rfl, Nat.le_of_ble_eq_true rfl, Nat.le_of_ble_eq_true rfl⟩ ⟨Nat.le_of_ble_eq_true rfl, Nat.le_of_ble_eq_true rfl⟩ rfl rfl rfl hl.1 rfl (Nat.le_of_ble_eq_true rfl) dX11_match_4 (fun r_1 hr_1 => ?_)
  obtain rfl : r_1 = 0 := hr_1
  refine lv_if_ne (tgt := 13) hx hb dX11_match_7 (by decide) (fun c_2 => absurd (by decide) c_2) (fun c_2 => ?_)
  refine lv_bipush (v := (-2)) hx hb dX11_match_10 (by decide) ?_
  exact W.iret (v := (-2)) hx hb hr (fun t ht hW => ⟨(-2), rfl, rfl, ht⟩) (fun _ h => by cases h) dX11_match_12
set_option maxHeartbeats 4000000 in
set_option maxRecDepth 100000 in
theorem k_X11_matched (l : Launch) (D : va_G) (cA : Nat → ClassId) (h0 : Nat) (tp : Nat) (rd : Nat) (g : Nat) (ev : Nat) (im : Nat) (sl : Nat) (co : Nat) (pa : Nat) (sp : Nat) (ba : Nat) (we : Nat) (g_sides : Nat) (g_grips : Nat) (g_wits : Nat) (g_says : Nat) (g_gives0 : Nat) (g_gives1 : Nat) (g_froms : Nat) (g_tos : Nat) (p0 : Int32) : Met l yX11_matched (Cond.code yX11_matched cX11_matched 2 (some .int) :: TB) (rmd 1 0 0) (PP D cA [(h0, .inr (11, [.ref tp, .ref rd, .ref g, .ref ev, .ref im, .ref sl, .ref co, .ref pa, .ref sp, .ref ba, .ref we])), (g, .inr (3, [.int 0, .int 0, .int 0, .int 0, .int 0, .int 0, .int 0, .int 0, .ref g_sides, .ref g_grips, .ref g_wits, .ref g_says, .ref g_gives0, .ref g_gives1, .ref g_froms, .ref g_tos]))] [.ref h0, .int p0]) (vp_Si (fun r => r = (-2))) 0 0 (fun _ => False) := by
  refine Met.ofW (cc := cX11_matched) (maxL := 2) (ret := (some .int)) (by decide) rfl ?_
  intro p e s m args below meth c s₁ B hml hv
  obtain ⟨rfl, hP, hKN⟩ := hv
  have hx := B.exec
  have hb := B.bytes
  have hr := B.returns
  have hts : ∀ w ∈ TB, w.before _ s = true := fun w h => atoms_spec B.pre w (List.mem_cons_of_mem _ h)
  have hown : s.vm.findClass RX11 = some m.cls := findClass_of_methodNamed B.named
  have hlocks := B.notSynchronized
  have hl := lv_entry ([.ref h0, .int p0]) (n := 2) (Nat.le_of_ble_eq_true rfl)
  rw [lg_entry_eq]
  generalize (lg_sl ([.ref h0, .int p0]) ++ List.replicate (2 - (lg_sl ([.ref h0, .int p0])).length) Slot.unset).toArray = ls at hl ⊢
  have hl : lv_has ls 2 [(0, .ref h0), (1, .int p0)] := hl
  refine lv_aload_n hx hb dX11_matched_0 rfl (lv_at hl 0 rfl) ?_
  refine va_get (D := D) (ci := 11) (v := .ref g) (C := RX11) (T := TX11) (N := 11) hx hb hts inX11 hown hKN.1 hP 0 rfl rfl 2 (by decide) (hts _ tw_467) (fun _ h9 => h9) rfl dX11_matched_1 ?_
  refine lv_iload_n hx hb dX11_matched_4 rfl (lv_at hl 1 rfl) ?_
  refine cpVi (rest := []) ⟨hx, hb, hml, hown, hts⟩ hKN (hP.sub (ws' := [(g, .inr (3, [.int 0, .int 0, .int 0, .int 0, .int 0, .int 0, .int 0, .int 0, .ref g_sides, .ref g_grips, .ref g_wits, .ref g_says, .ref g_gives0, .ref g_gives1, .ref g_froms, .ref g_tos]))]) [1] rfl) (k_X3_hasMan l D cA g g_sides g_grips g_wits g_says g_gives0 g_gives1 g_froms g_tos p0) (tb_V tw_698 tw_699 tw_700 tw_104 tw_701) hdX3_hasMan ⟨rfl, rfl, Nat.le_of_ble_eq_true rfl, Nat.le_of_ble_eq_true rfl⟩ ⟨Nat.le_of_ble_eq_true rfl, Nat.le_of_ble_eq_true rfl⟩ rfl rfl rfl hl.1 rfl (Nat.le_of_ble_eq_true rfl) dX11_matched_5 (fun r_1 hr_1 => ?_)
  obtain rfl : r_1 = 0 := hr_1
  refine lv_if_ne (tgt := 14) hx hb dX11_matched_8 (by decide) (fun c_2 => absurd (by decide) c_2) (fun c_2 => ?_)
  refine lv_bipush (v := (-2)) hx hb dX11_matched_11 (by decide) ?_
  exact W.iret (v := (-2)) hx hb hr (fun t ht hW => ⟨(-2), rfl, rfl, ht⟩) (fun _ h => by cases h) dX11_matched_13
set_option maxHeartbeats 4000000 in
set_option maxRecDepth 100000 in
theorem k_X11_loners (l : Launch) (D : va_G) (cA : Nat → ClassId) (h0 : Nat) (tp : Nat) (rd : Nat) (g : Nat) (ev : Nat) (im : Nat) (sl : Nat) (co : Nat) (pa : Nat) (sp : Nat) (ba : Nat) (we : Nat) (g_sides : Nat) (g_grips : Nat) (g_wits : Nat) (g_says : Nat) (g_gives0 : Nat) (g_gives1 : Nat) (g_froms : Nat) (g_tos : Nat) : Met l yX11_loners (Cond.code yX11_loners cX11_loners 3 (some .int) :: TB) (rmd 1 0 0) (PP D cA [(h0, .inr (11, [.ref tp, .ref rd, .ref g, .ref ev, .ref im, .ref sl, .ref co, .ref pa, .ref sp, .ref ba, .ref we])), (g, .inr (3, [.int 0, .int 0, .int 0, .int 0, .int 0, .int 0, .int 0, .int 0, .ref g_sides, .ref g_grips, .ref g_wits, .ref g_says, .ref g_gives0, .ref g_gives1, .ref g_froms, .ref g_tos]))] [.ref h0]) (vp_Si (fun r => r = (-2))) 0 0 (fun _ => False) := by
  refine Met.ofW (cc := cX11_loners) (maxL := 3) (ret := (some .int)) (by decide) rfl ?_
  intro p e s m args below meth c s₁ B hml hv
  obtain ⟨rfl, hP, hKN⟩ := hv
  have hx := B.exec
  have hb := B.bytes
  have hr := B.returns
  have hts : ∀ w ∈ TB, w.before _ s = true := fun w h => atoms_spec B.pre w (List.mem_cons_of_mem _ h)
  have hown : s.vm.findClass RX11 = some m.cls := findClass_of_methodNamed B.named
  have hlocks := B.notSynchronized
  have hl := lv_entry ([.ref h0]) (n := 3) (Nat.le_of_ble_eq_true rfl)
  rw [lg_entry_eq]
  generalize (lg_sl ([.ref h0]) ++ List.replicate (3 - (lg_sl ([.ref h0])).length) Slot.unset).toArray = ls at hl ⊢
  have hl : lv_has ls 3 [(0, .ref h0)] := hl
  refine lv_aload_n hx hb dX11_loners_0 rfl (lv_at hl 0 rfl) ?_
  refine va_get (D := D) (ci := 11) (v := .ref g) (C := RX11) (T := TX11) (N := 11) hx hb hts inX11 hown hKN.1 hP 0 rfl rfl 2 (by decide) (hts _ tw_467) (fun _ h9 => h9) rfl dX11_loners_1 ?_
  refine cpVi (rest := []) ⟨hx, hb, hml, hown, hts⟩ hKN (hP.sub (ws' := [(g, .inr (3, [.int 0, .int 0, .int 0, .int 0, .int 0, .int 0, .int 0, .int 0, .ref g_sides, .ref g_grips, .ref g_wits, .ref g_says, .ref g_gives0, .ref g_gives1, .ref g_froms, .ref g_tos]))]) [1] rfl) (k_X3_exists l D cA g g_sides g_grips g_wits g_says g_gives0 g_gives1 g_froms g_tos) (tb_V tw_768 tw_741 tw_742 tw_104 tw_743) hdX3_exists ⟨rfl, rfl, Nat.le_of_ble_eq_true rfl, Nat.le_of_ble_eq_true rfl⟩ ⟨Nat.le_of_ble_eq_true rfl, Nat.le_of_ble_eq_true rfl⟩ rfl rfl rfl hl.1 rfl (Nat.le_of_ble_eq_true rfl) dX11_loners_4 (fun r_1 hr_1 => ?_)
  obtain rfl : r_1 = 0 := hr_1
  refine lv_if_ne (tgt := 13) hx hb dX11_loners_7 (by decide) (fun c_2 => absurd (by decide) c_2) (fun c_2 => ?_)
  refine lv_bipush (v := (-2)) hx hb dX11_loners_10 (by decide) ?_
  exact W.iret (v := (-2)) hx hb hr (fun t ht hW => ⟨(-2), rfl, rfl, ht⟩) (fun _ h => by cases h) dX11_loners_12
set_option maxHeartbeats 4000000 in
set_option maxRecDepth 100000 in
theorem k_X11_fair (l : Launch) (D : va_G) (cA : Nat → ClassId) (h0 : Nat) (tp : Nat) (rd : Nat) (g : Nat) (ev : Nat) (im : Nat) (sl : Nat) (co : Nat) (pa : Nat) (sp : Nat) (ba : Nat) (we : Nat) (g_sides : Nat) (g_grips : Nat) (g_wits : Nat) (g_says : Nat) (g_gives0 : Nat) (g_gives1 : Nat) (g_froms : Nat) (g_tos : Nat) : Met l yX11_fair (Cond.code yX11_fair cX11_fair 1 (some .int) :: TB) (rmd 1 0 0) (PP D cA [(h0, .inr (11, [.ref tp, .ref rd, .ref g, .ref ev, .ref im, .ref sl, .ref co, .ref pa, .ref sp, .ref ba, .ref we])), (g, .inr (3, [.int 0, .int 0, .int 0, .int 0, .int 0, .int 0, .int 0, .int 0, .ref g_sides, .ref g_grips, .ref g_wits, .ref g_says, .ref g_gives0, .ref g_gives1, .ref g_froms, .ref g_tos]))] [.ref h0]) (vp_Si (fun r => r = (-2))) 0 0 (fun _ => False) := by
  refine Met.ofW (cc := cX11_fair) (maxL := 1) (ret := (some .int)) (by decide) rfl ?_
  intro p e s m args below meth c s₁ B hml hv
  obtain ⟨rfl, hP, hKN⟩ := hv
  have hx := B.exec
  have hb := B.bytes
  have hr := B.returns
  have hts : ∀ w ∈ TB, w.before _ s = true := fun w h => atoms_spec B.pre w (List.mem_cons_of_mem _ h)
  have hown : s.vm.findClass RX11 = some m.cls := findClass_of_methodNamed B.named
  have hlocks := B.notSynchronized
  have hl := lv_entry ([.ref h0]) (n := 1) (Nat.le_of_ble_eq_true rfl)
  rw [lg_entry_eq]
  generalize (lg_sl ([.ref h0]) ++ List.replicate (1 - (lg_sl ([.ref h0])).length) Slot.unset).toArray = ls at hl ⊢
  have hl : lv_has ls 1 [(0, .ref h0)] := hl
  refine lv_aload_n hx hb dX11_fair_0 rfl (lv_at hl 0 rfl) ?_
  refine va_get (D := D) (ci := 11) (v := .ref g) (C := RX11) (T := TX11) (N := 11) hx hb hts inX11 hown hKN.1 hP 0 rfl rfl 2 (by decide) (hts _ tw_467) (fun _ h9 => h9) rfl dX11_fair_1 ?_
  refine cpVi (rest := []) ⟨hx, hb, hml, hown, hts⟩ hKN (hP.sub (ws' := [(g, .inr (3, [.int 0, .int 0, .int 0, .int 0, .int 0, .int 0, .int 0, .int 0, .ref g_sides, .ref g_grips, .ref g_wits, .ref g_says, .ref g_gives0, .ref g_gives1, .ref g_froms, .ref g_tos]))]) [1] rfl) (k_X3_exists l D cA g g_sides g_grips g_wits g_says g_gives0 g_gives1 g_froms g_tos) (tb_V tw_768 tw_741 tw_742 tw_104 tw_743) hdX3_exists ⟨rfl, rfl, Nat.le_of_ble_eq_true rfl, Nat.le_of_ble_eq_true rfl⟩ ⟨Nat.le_of_ble_eq_true rfl, Nat.le_of_ble_eq_true rfl⟩ rfl rfl rfl hl.1 rfl (Nat.le_of_ble_eq_true rfl) dX11_fair_4 (fun r_1 hr_1 => ?_)
  obtain rfl : r_1 = 0 := hr_1
  refine lv_if_ne (tgt := 13) hx hb dX11_fair_7 (by decide) (fun c_2 => absurd (by decide) c_2) (fun c_2 => ?_)
  refine lv_bipush (v := (-2)) hx hb dX11_fair_10 (by decide) ?_
  exact W.iret (v := (-2)) hx hb hr (fun t ht hW => ⟨(-2), rfl, rfl, ht⟩) (fun _ h => by cases h) dX11_fair_12
set_option maxHeartbeats 4000000 in
set_option maxRecDepth 100000 in
theorem k_X11_resin (l : Launch) (D : va_G) (cA : Nat → ClassId) (h0 : Nat) (tp : Nat) (rd : Nat) (g : Nat) (ev : Nat) (im : Nat) (sl : Nat) (co : Nat) (pa : Nat) (sp : Nat) (ba : Nat) (we : Nat) (g_sides : Nat) (g_grips : Nat) (g_wits : Nat) (g_says : Nat) (g_gives0 : Nat) (g_gives1 : Nat) (g_froms : Nat) (g_tos : Nat) (p0 : Int32) (p1 : Int32) (p2 : Int32) : Met l yX11_resin (Cond.code yX11_resin cX11_resin 5 (some .int) :: TB) (rmd 2 0 0) (PP D cA [(h0, .inr (11, [.ref tp, .ref rd, .ref g, .ref ev, .ref im, .ref sl, .ref co, .ref pa, .ref sp, .ref ba, .ref we])), (g, .inr (3, [.int 0, .int 0, .int 0, .int 0, .int 0, .int 0, .int 0, .int 0, .ref g_sides, .ref g_grips, .ref g_wits, .ref g_says, .ref g_gives0, .ref g_gives1, .ref g_froms, .ref g_tos]))] [.ref h0, .int p0, .int p1, .int p2]) (vp_Si (fun r => r = (-2))) 0 0 (fun _ => False) := by
  refine Met.ofW (cc := cX11_resin) (maxL := 5) (ret := (some .int)) (by decide) rfl ?_
  intro p e s m args below meth c s₁ B hml hv
  obtain ⟨rfl, hP, hKN⟩ := hv
  have hx := B.exec
  have hb := B.bytes
  have hr := B.returns
  have hts : ∀ w ∈ TB, w.before _ s = true := fun w h => atoms_spec B.pre w (List.mem_cons_of_mem _ h)
  have hown : s.vm.findClass RX11 = some m.cls := findClass_of_methodNamed B.named
  have hlocks := B.notSynchronized
  have hl := lv_entry ([.ref h0, .int p0, .int p1, .int p2]) (n := 5) (Nat.le_of_ble_eq_true rfl)
  rw [lg_entry_eq]
  generalize (lg_sl ([.ref h0, .int p0, .int p1, .int p2]) ++ List.replicate (5 - (lg_sl ([.ref h0, .int p0, .int p1, .int p2])).length) Slot.unset).toArray = ls at hl ⊢
  have hl : lv_has ls 5 [(0, .ref h0), (1, .int p0), (2, .int p1), (3, .int p2)] := hl
  refine lv_iload_n hx hb dX11_resin_0 rfl (lv_at hl 3 rfl) ?_
  refine lv_iconst (v := 0) hx hb dX11_resin_1 (by decide) ?_
  refine lv_aload_n hx hb dX11_resin_2 rfl (lv_at hl 0 rfl) ?_
  refine va_get (D := D) (ci := 11) (v := .ref g) (C := RX11) (T := TX11) (N := 11) hx hb hts inX11 hown hKN.1 hP 0 rfl rfl 2 (by decide) (hts _ tw_467) (fun _ h9 => h9) rfl dX11_resin_3 ?_
  refine va_get (D := D) (ci := 3) (v := .int 0) (C := RX3) (T := TX3) (N := 16) hx hb hts inX3 hown hKN.1 hP 1 rfl rfl 1 (by decide) (hts _ tw_163) (fun _ h9 => h9) rfl dX11_resin_6 ?_
  refine cpSi (rest := []) ⟨hx, hb, hml, hown, hts⟩ hKN (hP.sub (ws' := []) [] rfl) (k_X11_isWithin l D cA p2 0 0) (tb_S tw_515 tw_516 tw_101 tw_517) hdX11_isWithin ⟨rfl, rfl, Nat.le_of_ble_eq_true rfl, Nat.le_of_ble_eq_true rfl⟩ ⟨Nat.le_of_ble_eq_true rfl, Nat.le_of_ble_eq_true rfl⟩ rfl hl.1 rfl (Nat.le_of_ble_eq_true rfl) dX11_resin_9 (fun r_1 hr_1 => ?_)
  rcases hr_1 with ⟨k_1_0, rfl⟩ | ⟨k_1_1, rfl⟩
  · skip
    obtain rfl : p2 = 0 := Int32.toInt_inj.mp ((by have zi_0 : (0 : Int32).toInt = 0 := (by decide); omega : p2.toInt = 0).trans (by decide))
    refine lv_if_ne (tgt := 18) hx hb dX11_resin_12 (by decide) (fun c_2 => ?_) (fun c_2 => absurd c_2 (by decide))
    refine lv_aload_n hx hb dX11_resin_18 rfl (lv_at hl 0 rfl) ?_
    refine va_get (D := D) (ci := 11) (v := .ref g) (C := RX11) (T := TX11) (N := 11) hx hb hts inX11 hown hKN.1 hP 0 rfl rfl 2 (by decide) (hts _ tw_467) (fun _ h9 => h9) rfl dX11_resin_19 ?_
    refine lv_iload_n hx hb dX11_resin_22 rfl (lv_at hl 1 rfl) ?_
    refine lv_iload_n hx hb dX11_resin_23 rfl (lv_at hl 2 rfl) ?_
    refine cpVi (rest := []) ⟨hx, hb, hml, hown, hts⟩ hKN (hP.sub (ws' := [(g, .inr (3, [.int 0, .int 0, .int 0, .int 0, .int 0, .int 0, .int 0, .int 0, .ref g_sides, .ref g_grips, .ref g_wits, .ref g_says, .ref g_gives0, .ref g_gives1, .ref g_froms, .ref g_tos]))]) [1] rfl) (k_X3_holdOrRefusal l D cA g g_sides g_grips g_wits g_says g_gives0 g_gives1 g_froms g_tos p0 p1) (tb_V tw_843 tw_844 tw_845 tw_104 tw_846) hdX3_holdOrRefusal ⟨rfl, rfl, Nat.le_of_ble_eq_true rfl, Nat.le_of_ble_eq_true rfl⟩ ⟨Nat.le_of_ble_eq_true rfl, Nat.le_of_ble_eq_true rfl⟩ rfl rfl rfl hl.1 rfl (Nat.le_of_ble_eq_true rfl) dX11_resin_24 (fun r_3 hr_3 => ?_)
    obtain rfl : r_3 = (-2) := hr_3
    refine lv_istore (lv' := [(4, .int (-2)), (0, .ref h0), (1, .int p0), (2, .int p1), (3, .int 0)]) hx hb dX11_resin_27 hl (by decide) rfl (fun ls hl => ?_)
    refine lv_iload hx hb dX11_resin_29 (lv_at hl 0 rfl) ?_
    refine lv_if_ge (tgt := 39) hx hb dX11_resin_31 (by decide) (fun c_4 => absurd c_4 (by decide)) (fun c_4 => ?_)
    refine lv_iload hx hb dX11_resin_34 (lv_at hl 0 rfl) ?_
    refine lv_goto (tgt := 49) hx hb dX11_resin_36 (by decide) ?_
    exact W.iret (v := (-2)) hx hb hr (fun t ht hW => ⟨(-2), rfl, rfl, ht⟩) (fun _ h => by cases h) dX11_resin_49
  · skip
    refine lv_if_ne (tgt := 18) hx hb dX11_resin_12 (by decide) (fun c_5 => absurd (by decide) c_5) (fun c_5 => ?_)
    refine lv_bipush (v := (-2)) hx hb dX11_resin_15 (by decide) ?_
    exact W.iret (v := (-2)) hx hb hr (fun t ht hW => ⟨(-2), rfl, rfl, ht⟩) (fun _ h => by cases h) dX11_resin_17
set_option maxHeartbeats 4000000 in
set_option maxRecDepth 100000 in
theorem k_X11_spare (l : Launch) (D : va_G) (cA : Nat → ClassId) (h0 : Nat) (tp : Nat) (rd : Nat) (g : Nat) (ev : Nat) (im : Nat) (sl : Nat) (co : Nat) (pa : Nat) (sp : Nat) (ba : Nat) (we : Nat) (g_sides : Nat) (g_grips : Nat) (g_wits : Nat) (g_says : Nat) (g_gives0 : Nat) (g_gives1 : Nat) (g_froms : Nat) (g_tos : Nat) (p0 : Int32) (p1 : Int32) : Met l yX11_spare (Cond.code yX11_spare cX11_spare 6 (some .int) :: TB) (rmd 2 0 0) (PP D cA [(h0, .inr (11, [.ref tp, .ref rd, .ref g, .ref ev, .ref im, .ref sl, .ref co, .ref pa, .ref sp, .ref ba, .ref we])), (g, .inr (3, [.int 0, .int 0, .int 0, .int 0, .int 0, .int 0, .int 0, .int 0, .ref g_sides, .ref g_grips, .ref g_wits, .ref g_says, .ref g_gives0, .ref g_gives1, .ref g_froms, .ref g_tos]))] [.ref h0, .int p0, .int p1]) (vp_Si (fun r => r = (-2))) 0 0 (fun _ => False) := by
  refine Met.ofW (cc := cX11_spare) (maxL := 6) (ret := (some .int)) (by decide) rfl ?_
  intro p e s m args below meth c s₁ B hml hv
  obtain ⟨rfl, hP, hKN⟩ := hv
  have hx := B.exec
  have hb := B.bytes
  have hr := B.returns
  have hts : ∀ w ∈ TB, w.before _ s = true := fun w h => atoms_spec B.pre w (List.mem_cons_of_mem _ h)
  have hown : s.vm.findClass RX11 = some m.cls := findClass_of_methodNamed B.named
  have hlocks := B.notSynchronized
  have hl := lv_entry ([.ref h0, .int p0, .int p1]) (n := 6) (Nat.le_of_ble_eq_true rfl)
  rw [lg_entry_eq]
  generalize (lg_sl ([.ref h0, .int p0, .int p1]) ++ List.replicate (6 - (lg_sl ([.ref h0, .int p0, .int p1])).length) Slot.unset).toArray = ls at hl ⊢
  have hl : lv_has ls 6 [(0, .ref h0), (1, .int p0), (2, .int p1)] := hl
  refine lv_aload_n hx hb dX11_spare_0 rfl (lv_at hl 0 rfl) ?_
  refine va_get (D := D) (ci := 11) (v := .ref g) (C := RX11) (T := TX11) (N := 11) hx hb hts inX11 hown hKN.1 hP 0 rfl rfl 2 (by decide) (hts _ tw_467) (fun _ h9 => h9) rfl dX11_spare_1 ?_
  refine lv_iload_n hx hb dX11_spare_4 rfl (lv_at hl 1 rfl) ?_
  refine lv_iload_n hx hb dX11_spare_5 rfl (lv_at hl 2 rfl) ?_
  refine cpVi (rest := []) ⟨hx, hb, hml, hown, hts⟩ hKN (hP.sub (ws' := [(g, .inr (3, [.int 0, .int 0, .int 0, .int 0, .int 0, .int 0, .int 0, .int 0, .ref g_sides, .ref g_grips, .ref g_wits, .ref g_says, .ref g_gives0, .ref g_gives1, .ref g_froms, .ref g_tos]))]) [1] rfl) (k_X3_holdOrRefusal l D cA g g_sides g_grips g_wits g_says g_gives0 g_gives1 g_froms g_tos p0 p1) (tb_V tw_843 tw_844 tw_845 tw_104 tw_846) hdX3_holdOrRefusal ⟨rfl, rfl, Nat.le_of_ble_eq_true rfl, Nat.le_of_ble_eq_true rfl⟩ ⟨Nat.le_of_ble_eq_true rfl, Nat.le_of_ble_eq_true rfl⟩ rfl rfl rfl hl.1 rfl (Nat.le_of_ble_eq_true rfl) dX11_spare_6 (fun r_1 hr_1 => ?_)
  obtain rfl : r_1 = (-2) := hr_1
  refine lv_istore_n (lv' := [(3, .int (-2)), (0, .ref h0), (1, .int p0), (2, .int p1)]) hx hb dX11_spare_9 rfl hl (by decide) rfl (fun ls hl => ?_)
  refine lv_iload_n hx hb dX11_spare_10 rfl (lv_at hl 0 rfl) ?_
  refine lv_if_ge (tgt := 16) hx hb dX11_spare_11 (by decide) (fun c_2 => absurd c_2 (by decide)) (fun c_2 => ?_)
  refine lv_iload_n hx hb dX11_spare_14 rfl (lv_at hl 0 rfl) ?_
  exact W.iret (v := (-2)) hx hb hr (fun t ht hW => ⟨(-2), rfl, rfl, ht⟩) (fun _ h => by cases h) dX11_spare_15
set_option maxHeartbeats 4000000 in
set_option maxRecDepth 100000 in
theorem k_X11_cut (l : Launch) (D : va_G) (cA : Nat → ClassId) (h0 : Nat) (tp : Nat) (rd : Nat) (g : Nat) (ev : Nat) (im : Nat) (sl : Nat) (co : Nat) (pa : Nat) (sp : Nat) (ba : Nat) (we : Nat) (g_sides : Nat) (g_grips : Nat) (g_wits : Nat) (g_says : Nat) (g_gives0 : Nat) (g_gives1 : Nat) (g_froms : Nat) (g_tos : Nat) (p0 : Int32) (p1 : Int32) : Met l yX11_cut (Cond.code yX11_cut cX11_cut 4 (some .int) :: TB) (rmd 3 0 0) (PP D cA [(h0, .inr (11, [.ref tp, .ref rd, .ref g, .ref ev, .ref im, .ref sl, .ref co, .ref pa, .ref sp, .ref ba, .ref we])), (g, .inr (3, [.int 0, .int 0, .int 0, .int 0, .int 0, .int 0, .int 0, .int 0, .ref g_sides, .ref g_grips, .ref g_wits, .ref g_says, .ref g_gives0, .ref g_gives1, .ref g_froms, .ref g_tos]))] [.ref h0, .int p0, .int p1]) (vp_Si (fun r => r = (-2))) 0 0 (fun _ => False) := by
  refine Met.ofW (cc := cX11_cut) (maxL := 4) (ret := (some .int)) (by decide) rfl ?_
  intro p e s m args below meth c s₁ B hml hv
  obtain ⟨rfl, hP, hKN⟩ := hv
  have hx := B.exec
  have hb := B.bytes
  have hr := B.returns
  have hts : ∀ w ∈ TB, w.before _ s = true := fun w h => atoms_spec B.pre w (List.mem_cons_of_mem _ h)
  have hown : s.vm.findClass RX11 = some m.cls := findClass_of_methodNamed B.named
  have hlocks := B.notSynchronized
  have hl := lv_entry ([.ref h0, .int p0, .int p1]) (n := 4) (Nat.le_of_ble_eq_true rfl)
  rw [lg_entry_eq]
  generalize (lg_sl ([.ref h0, .int p0, .int p1]) ++ List.replicate (4 - (lg_sl ([.ref h0, .int p0, .int p1])).length) Slot.unset).toArray = ls at hl ⊢
  have hl : lv_has ls 4 [(0, .ref h0), (1, .int p0), (2, .int p1)] := hl
  refine lv_aload_n hx hb dX11_cut_0 rfl (lv_at hl 0 rfl) ?_
  refine lv_iload_n hx hb dX11_cut_1 rfl (lv_at hl 1 rfl) ?_
  refine lv_iload_n hx hb dX11_cut_2 rfl (lv_at hl 2 rfl) ?_
  refine cpVi (rest := []) ⟨hx, hb, hml, hown, hts⟩ hKN (hP.sub (ws' := [(h0, .inr (11, [.ref tp, .ref rd, .ref g, .ref ev, .ref im, .ref sl, .ref co, .ref pa, .ref sp, .ref ba, .ref we])), (g, .inr (3, [.int 0, .int 0, .int 0, .int 0, .int 0, .int 0, .int 0, .int 0, .ref g_sides, .ref g_grips, .ref g_wits, .ref g_says, .ref g_gives0, .ref g_gives1, .ref g_froms, .ref g_tos]))]) [0, 1] rfl) (k_X11_saidRefusal l D cA h0 tp rd g ev im sl co pa sp ba we g_sides g_grips g_wits g_says g_gives0 g_gives1 g_froms g_tos p0 p1) (tb_V tw_930 tw_932 tw_15 tw_101 tw_933) hdX11_saidRefusal ⟨rfl, rfl, Nat.le_of_ble_eq_true rfl, Nat.le_of_ble_eq_true rfl⟩ ⟨Nat.le_of_ble_eq_true rfl, Nat.le_of_ble_eq_true rfl⟩ rfl rfl rfl hl.1 rfl (Nat.le_of_ble_eq_true rfl) dX11_cut_3 (fun r_1 hr_1 => ?_)
  obtain rfl : r_1 = (-2) := hr_1
  refine lv_istore_n (lv' := [(3, .int (-2)), (0, .ref h0), (1, .int p0), (2, .int p1)]) hx hb dX11_cut_6 rfl hl (by decide) rfl (fun ls hl => ?_)
  refine lv_iload_n hx hb dX11_cut_7 rfl (lv_at hl 0 rfl) ?_
  refine lv_if_eq (tgt := 15) hx hb dX11_cut_8 (by decide) (fun c_2 => absurd c_2 (by decide)) (fun c_2 => ?_)
  refine lv_iload_n hx hb dX11_cut_11 rfl (lv_at hl 0 rfl) ?_
  refine lv_goto (tgt := 28) hx hb dX11_cut_12 (by decide) ?_
  exact W.iret (v := (-2)) hx hb hr (fun t ht hW => ⟨(-2), rfl, rfl, ht⟩) (fun _ h => by cases h) dX11_cut_28
set_option maxHeartbeats 4000000 in
set_option maxRecDepth 100000 in
theorem k_X11_waits (l : Launch) (D : va_G) (cA : Nat → ClassId) (h0 : Nat) (tp : Nat) (rd : Nat) (g : Nat) (ev : Nat) (im : Nat) (sl : Nat) (co : Nat) (pa : Nat) (sp : Nat) (ba : Nat) (we : Nat) (g_sides : Nat) (g_grips : Nat) (g_wits : Nat) (g_says : Nat) (g_gives0 : Nat) (g_gives1 : Nat) (g_froms : Nat) (g_tos : Nat) (p0 : Int32) (p1 : Int32) : Met l yX11_waits (Cond.code yX11_waits cX11_waits 4 (some .int) :: TB) (rmd 3 0 0) (PP D cA [(h0, .inr (11, [.ref tp, .ref rd, .ref g, .ref ev, .ref im, .ref sl, .ref co, .ref pa, .ref sp, .ref ba, .ref we])), (g, .inr (3, [.int 0, .int 0, .int 0, .int 0, .int 0, .int 0, .int 0, .int 0, .ref g_sides, .ref g_grips, .ref g_wits, .ref g_says, .ref g_gives0, .ref g_gives1, .ref g_froms, .ref g_tos]))] [.ref h0, .int p0, .int p1]) (vp_Si (fun r => r = (-2))) 0 0 (fun _ => False) := by
  refine Met.ofW (cc := cX11_waits) (maxL := 4) (ret := (some .int)) (by decide) rfl ?_
  intro p e s m args below meth c s₁ B hml hv
  obtain ⟨rfl, hP, hKN⟩ := hv
  have hx := B.exec
  have hb := B.bytes
  have hr := B.returns
  have hts : ∀ w ∈ TB, w.before _ s = true := fun w h => atoms_spec B.pre w (List.mem_cons_of_mem _ h)
  have hown : s.vm.findClass RX11 = some m.cls := findClass_of_methodNamed B.named
  have hlocks := B.notSynchronized
  have hl := lv_entry ([.ref h0, .int p0, .int p1]) (n := 4) (Nat.le_of_ble_eq_true rfl)
  rw [lg_entry_eq]
  generalize (lg_sl ([.ref h0, .int p0, .int p1]) ++ List.replicate (4 - (lg_sl ([.ref h0, .int p0, .int p1])).length) Slot.unset).toArray = ls at hl ⊢
  have hl : lv_has ls 4 [(0, .ref h0), (1, .int p0), (2, .int p1)] := hl
  refine lv_aload_n hx hb dX11_waits_0 rfl (lv_at hl 0 rfl) ?_
  refine lv_iload_n hx hb dX11_waits_1 rfl (lv_at hl 1 rfl) ?_
  refine lv_iload_n hx hb dX11_waits_2 rfl (lv_at hl 2 rfl) ?_
  refine cpVi (rest := []) ⟨hx, hb, hml, hown, hts⟩ hKN (hP.sub (ws' := [(h0, .inr (11, [.ref tp, .ref rd, .ref g, .ref ev, .ref im, .ref sl, .ref co, .ref pa, .ref sp, .ref ba, .ref we])), (g, .inr (3, [.int 0, .int 0, .int 0, .int 0, .int 0, .int 0, .int 0, .int 0, .ref g_sides, .ref g_grips, .ref g_wits, .ref g_says, .ref g_gives0, .ref g_gives1, .ref g_froms, .ref g_tos]))]) [0, 1] rfl) (k_X11_saidRefusal l D cA h0 tp rd g ev im sl co pa sp ba we g_sides g_grips g_wits g_says g_gives0 g_gives1 g_froms g_tos p0 p1) (tb_V tw_930 tw_932 tw_15 tw_101 tw_933) hdX11_saidRefusal ⟨rfl, rfl, Nat.le_of_ble_eq_true rfl, Nat.le_of_ble_eq_true rfl⟩ ⟨Nat.le_of_ble_eq_true rfl, Nat.le_of_ble_eq_true rfl⟩ rfl rfl rfl hl.1 rfl (Nat.le_of_ble_eq_true rfl) dX11_waits_3 (fun r_1 hr_1 => ?_)
  obtain rfl : r_1 = (-2) := hr_1
  refine lv_istore_n (lv' := [(3, .int (-2)), (0, .ref h0), (1, .int p0), (2, .int p1)]) hx hb dX11_waits_6 rfl hl (by decide) rfl (fun ls hl => ?_)
  refine lv_iload_n hx hb dX11_waits_7 rfl (lv_at hl 0 rfl) ?_
  refine lv_if_eq (tgt := 15) hx hb dX11_waits_8 (by decide) (fun c_2 => absurd c_2 (by decide)) (fun c_2 => ?_)
  refine lv_iload_n hx hb dX11_waits_11 rfl (lv_at hl 0 rfl) ?_
  refine lv_goto (tgt := 28) hx hb dX11_waits_12 (by decide) ?_
  exact W.iret (v := (-2)) hx hb hr (fun t ht hW => ⟨(-2), rfl, rfl, ht⟩) (fun _ h => by cases h) dX11_waits_28
set_option maxHeartbeats 4000000 in
set_option maxRecDepth 100000 in
theorem k_X11_least (l : Launch) (D : va_G) (cA : Nat → ClassId) (h0 : Nat) (tp : Nat) (rd : Nat) (g : Nat) (ev : Nat) (im : Nat) (sl : Nat) (co : Nat) (pa : Nat) (sp : Nat) (ba : Nat) (we : Nat) (g_sides : Nat) (g_grips : Nat) (g_wits : Nat) (g_says : Nat) (g_gives0 : Nat) (g_gives1 : Nat) (g_froms : Nat) (g_tos : Nat) (p0 : Int32) : Met l yX11_least (Cond.code yX11_least cX11_least 2 (some .int) :: TB) (rmd 2 0 0) (PP D cA [(h0, .inr (11, [.ref tp, .ref rd, .ref g, .ref ev, .ref im, .ref sl, .ref co, .ref pa, .ref sp, .ref ba, .ref we])), (g, .inr (3, [.int 0, .int 0, .int 0, .int 0, .int 0, .int 0, .int 0, .int 0, .ref g_sides, .ref g_grips, .ref g_wits, .ref g_says, .ref g_gives0, .ref g_gives1, .ref g_froms, .ref g_tos]))] [.ref h0, .int p0]) (vp_Si (fun r => r = (-2))) 0 0 (fun _ => False) := by
  refine Met.ofW (cc := cX11_least) (maxL := 2) (ret := (some .int)) (by decide) rfl ?_
  intro p e s m args below meth c s₁ B hml hv
  obtain ⟨rfl, hP, hKN⟩ := hv
  have hx := B.exec
  have hb := B.bytes
  have hr := B.returns
  have hts : ∀ w ∈ TB, w.before _ s = true := fun w h => atoms_spec B.pre w (List.mem_cons_of_mem _ h)
  have hown : s.vm.findClass RX11 = some m.cls := findClass_of_methodNamed B.named
  have hlocks := B.notSynchronized
  have hl := lv_entry ([.ref h0, .int p0]) (n := 2) (Nat.le_of_ble_eq_true rfl)
  rw [lg_entry_eq]
  generalize (lg_sl ([.ref h0, .int p0]) ++ List.replicate (2 - (lg_sl ([.ref h0, .int p0])).length) Slot.unset).toArray = ls at hl ⊢
  have hl : lv_has ls 2 [(0, .ref h0), (1, .int p0)] := hl
  refine lv_aload_n hx hb dX11_least_0 rfl (lv_at hl 0 rfl) ?_
  refine lv_iload_n hx hb dX11_least_1 rfl (lv_at hl 1 rfl) ?_
  refine lv_iconst (v := 1) hx hb dX11_least_2 (by decide) ?_
  refine cpVi (rest := []) ⟨hx, hb, hml, hown, hts⟩ hKN (hP.sub (ws' := [(h0, .inr (11, [.ref tp, .ref rd, .ref g, .ref ev, .ref im, .ref sl, .ref co, .ref pa, .ref sp, .ref ba, .ref we])), (g, .inr (3, [.int 0, .int 0, .int 0, .int 0, .int 0, .int 0, .int 0, .int 0, .ref g_sides, .ref g_grips, .ref g_wits, .ref g_says, .ref g_gives0, .ref g_gives1, .ref g_froms, .ref g_tos]))]) [0, 1] rfl) (k_X11_isHold l D cA h0 tp rd g ev im sl co pa sp ba we g_sides g_grips g_wits g_says g_gives0 g_gives1 g_froms g_tos p0 1) (tb_V tw_934 tw_936 tw_16 tw_101 tw_937) hdX11_isHold ⟨rfl, rfl, Nat.le_of_ble_eq_true rfl, Nat.le_of_ble_eq_true rfl⟩ ⟨Nat.le_of_ble_eq_true rfl, Nat.le_of_ble_eq_true rfl⟩ rfl rfl rfl hl.1 rfl (Nat.le_of_ble_eq_true rfl) dX11_least_3 (fun r_1 hr_1 => ?_)
  obtain rfl : r_1 = 0 := hr_1
  refine lv_if_eq (tgt := 20) hx hb dX11_least_6 (by decide) (fun c_2 => ?_) (fun c_2 => absurd (by decide) c_2)
  refine lv_bipush (v := (-2)) hx hb dX11_least_20 (by decide) ?_
  exact W.iret (v := (-2)) hx hb hr (fun t ht hW => ⟨(-2), rfl, rfl, ht⟩) (fun _ h => by cases h) dX11_least_22
set_option maxHeartbeats 4000000 in
set_option maxRecDepth 100000 in
theorem k_X11_order (l : Launch) (D : va_G) (cA : Nat → ClassId) (h0 : Nat) (tp : Nat) (rd : Nat) (g : Nat) (ev : Nat) (im : Nat) (sl : Nat) (co : Nat) (pa : Nat) (sp : Nat) (ba : Nat) (we : Nat) (g_sides : Nat) (g_grips : Nat) (g_wits : Nat) (g_says : Nat) (g_gives0 : Nat) (g_gives1 : Nat) (g_froms : Nat) (g_tos : Nat) (p0 : Int32) (p1 : Int32) : Met l yX11_order (Cond.code yX11_order cX11_order 3 (some .int) :: TB) (rmd 2 0 0) (PP D cA [(h0, .inr (11, [.ref tp, .ref rd, .ref g, .ref ev, .ref im, .ref sl, .ref co, .ref pa, .ref sp, .ref ba, .ref we])), (g, .inr (3, [.int 0, .int 0, .int 0, .int 0, .int 0, .int 0, .int 0, .int 0, .ref g_sides, .ref g_grips, .ref g_wits, .ref g_says, .ref g_gives0, .ref g_gives1, .ref g_froms, .ref g_tos]))] [.ref h0, .int p0, .int p1]) (vp_Si (fun r => r = (-2))) 0 0 (fun _ => False) := by
  refine Met.ofW (cc := cX11_order) (maxL := 3) (ret := (some .int)) (by decide) rfl ?_
  intro p e s m args below meth c s₁ B hml hv
  obtain ⟨rfl, hP, hKN⟩ := hv
  have hx := B.exec
  have hb := B.bytes
  have hr := B.returns
  have hts : ∀ w ∈ TB, w.before _ s = true := fun w h => atoms_spec B.pre w (List.mem_cons_of_mem _ h)
  have hown : s.vm.findClass RX11 = some m.cls := findClass_of_methodNamed B.named
  have hlocks := B.notSynchronized
  have hl := lv_entry ([.ref h0, .int p0, .int p1]) (n := 3) (Nat.le_of_ble_eq_true rfl)
  rw [lg_entry_eq]
  generalize (lg_sl ([.ref h0, .int p0, .int p1]) ++ List.replicate (3 - (lg_sl ([.ref h0, .int p0, .int p1])).length) Slot.unset).toArray = ls at hl ⊢
  have hl : lv_has ls 3 [(0, .ref h0), (1, .int p0), (2, .int p1)] := hl
  refine lv_aload_n hx hb dX11_order_0 rfl (lv_at hl 0 rfl) ?_
  refine lv_iload_n hx hb dX11_order_1 rfl (lv_at hl 1 rfl) ?_
  refine lv_iconst (v := 1) hx hb dX11_order_2 (by decide) ?_
  refine cpVi (rest := []) ⟨hx, hb, hml, hown, hts⟩ hKN (hP.sub (ws' := [(h0, .inr (11, [.ref tp, .ref rd, .ref g, .ref ev, .ref im, .ref sl, .ref co, .ref pa, .ref sp, .ref ba, .ref we])), (g, .inr (3, [.int 0, .int 0, .int 0, .int 0, .int 0, .int 0, .int 0, .int 0, .ref g_sides, .ref g_grips, .ref g_wits, .ref g_says, .ref g_gives0, .ref g_gives1, .ref g_froms, .ref g_tos]))]) [0, 1] rfl) (k_X11_isHold l D cA h0 tp rd g ev im sl co pa sp ba we g_sides g_grips g_wits g_says g_gives0 g_gives1 g_froms g_tos p0 1) (tb_V tw_934 tw_936 tw_16 tw_101 tw_937) hdX11_isHold ⟨rfl, rfl, Nat.le_of_ble_eq_true rfl, Nat.le_of_ble_eq_true rfl⟩ ⟨Nat.le_of_ble_eq_true rfl, Nat.le_of_ble_eq_true rfl⟩ rfl rfl rfl hl.1 rfl (Nat.le_of_ble_eq_true rfl) dX11_order_3 (fun r_1 hr_1 => ?_)
  obtain rfl : r_1 = 0 := hr_1
  refine lv_if_eq (tgt := 21) hx hb dX11_order_6 (by decide) (fun c_2 => ?_) (fun c_2 => absurd (by decide) c_2)
  refine lv_bipush (v := (-2)) hx hb dX11_order_21 (by decide) ?_
  exact W.iret (v := (-2)) hx hb hr (fun t ht hW => ⟨(-2), rfl, rfl, ht⟩) (fun _ h => by cases h) dX11_order_23
set_option maxHeartbeats 4000000 in
set_option maxRecDepth 100000 in
theorem k_X11_needs (l : Launch) (D : va_G) (cA : Nat → ClassId) (h0 : Nat) (tp : Nat) (rd : Nat) (g : Nat) (ev : Nat) (im : Nat) (sl : Nat) (co : Nat) (pa : Nat) (sp : Nat) (ba : Nat) (we : Nat) (g_sides : Nat) (g_grips : Nat) (g_wits : Nat) (g_says : Nat) (g_gives0 : Nat) (g_gives1 : Nat) (g_froms : Nat) (g_tos : Nat) (p0 : Int32) : Met l yX11_needs (Cond.code yX11_needs cX11_needs 2 (some .int) :: TB) (rmd 1 0 0) (PP D cA [(h0, .inr (11, [.ref tp, .ref rd, .ref g, .ref ev, .ref im, .ref sl, .ref co, .ref pa, .ref sp, .ref ba, .ref we])), (g, .inr (3, [.int 0, .int 0, .int 0, .int 0, .int 0, .int 0, .int 0, .int 0, .ref g_sides, .ref g_grips, .ref g_wits, .ref g_says, .ref g_gives0, .ref g_gives1, .ref g_froms, .ref g_tos]))] [.ref h0, .int p0]) (vp_Si (fun r => r = (-2))) 0 0 (fun _ => False) := by
  refine Met.ofW (cc := cX11_needs) (maxL := 2) (ret := (some .int)) (by decide) rfl ?_
  intro p e s m args below meth c s₁ B hml hv
  obtain ⟨rfl, hP, hKN⟩ := hv
  have hx := B.exec
  have hb := B.bytes
  have hr := B.returns
  have hts : ∀ w ∈ TB, w.before _ s = true := fun w h => atoms_spec B.pre w (List.mem_cons_of_mem _ h)
  have hown : s.vm.findClass RX11 = some m.cls := findClass_of_methodNamed B.named
  have hlocks := B.notSynchronized
  have hl := lv_entry ([.ref h0, .int p0]) (n := 2) (Nat.le_of_ble_eq_true rfl)
  rw [lg_entry_eq]
  generalize (lg_sl ([.ref h0, .int p0]) ++ List.replicate (2 - (lg_sl ([.ref h0, .int p0])).length) Slot.unset).toArray = ls at hl ⊢
  have hl : lv_has ls 2 [(0, .ref h0), (1, .int p0)] := hl
  refine lv_aload_n hx hb dX11_needs_0 rfl (lv_at hl 0 rfl) ?_
  refine va_get (D := D) (ci := 11) (v := .ref g) (C := RX11) (T := TX11) (N := 11) hx hb hts inX11 hown hKN.1 hP 0 rfl rfl 2 (by decide) (hts _ tw_467) (fun _ h9 => h9) rfl dX11_needs_1 ?_
  refine cpVi (rest := []) ⟨hx, hb, hml, hown, hts⟩ hKN (hP.sub (ws' := [(g, .inr (3, [.int 0, .int 0, .int 0, .int 0, .int 0, .int 0, .int 0, .int 0, .ref g_sides, .ref g_grips, .ref g_wits, .ref g_says, .ref g_gives0, .ref g_gives1, .ref g_froms, .ref g_tos]))]) [1] rfl) (k_X3_exists l D cA g g_sides g_grips g_wits g_says g_gives0 g_gives1 g_froms g_tos) (tb_V tw_768 tw_741 tw_742 tw_104 tw_743) hdX3_exists ⟨rfl, rfl, Nat.le_of_ble_eq_true rfl, Nat.le_of_ble_eq_true rfl⟩ ⟨Nat.le_of_ble_eq_true rfl, Nat.le_of_ble_eq_true rfl⟩ rfl rfl rfl hl.1 rfl (Nat.le_of_ble_eq_true rfl) dX11_needs_4 (fun r_1 hr_1 => ?_)
  obtain rfl : r_1 = 0 := hr_1
  refine lv_if_eq (tgt := 20) hx hb dX11_needs_7 (by decide) (fun c_2 => ?_) (fun c_2 => absurd (by decide) c_2)
  refine lv_bipush (v := (-2)) hx hb dX11_needs_20 (by decide) ?_
  exact W.iret (v := (-2)) hx hb hr (fun t ht hW => ⟨(-2), rfl, rfl, ht⟩) (fun _ h => by cases h) dX11_needs_22
set_option maxHeartbeats 4000000 in
set_option maxRecDepth 100000 in
theorem k_X11_ends (l : Launch) (D : va_G) (cA : Nat → ClassId) (h0 : Nat) (tp : Nat) (rd : Nat) (g : Nat) (ev : Nat) (im : Nat) (sl : Nat) (co : Nat) (pa : Nat) (sp : Nat) (ba : Nat) (we : Nat) (g_sides : Nat) (g_grips : Nat) (g_wits : Nat) (g_says : Nat) (g_gives0 : Nat) (g_gives1 : Nat) (g_froms : Nat) (g_tos : Nat) (p0 : Int32) : Met l yX11_ends (Cond.code yX11_ends cX11_ends 3 (some .int) :: TB) (rmd 2 0 0) (PP D cA [(h0, .inr (11, [.ref tp, .ref rd, .ref g, .ref ev, .ref im, .ref sl, .ref co, .ref pa, .ref sp, .ref ba, .ref we])), (g, .inr (3, [.int 0, .int 0, .int 0, .int 0, .int 0, .int 0, .int 0, .int 0, .ref g_sides, .ref g_grips, .ref g_wits, .ref g_says, .ref g_gives0, .ref g_gives1, .ref g_froms, .ref g_tos]))] [.ref h0, .int p0]) (vp_Si (fun r => r = (-2))) 0 0 (fun _ => False) := by
  refine Met.ofW (cc := cX11_ends) (maxL := 3) (ret := (some .int)) (by decide) rfl ?_
  intro p e s m args below meth c s₁ B hml hv
  obtain ⟨rfl, hP, hKN⟩ := hv
  have hx := B.exec
  have hb := B.bytes
  have hr := B.returns
  have hts : ∀ w ∈ TB, w.before _ s = true := fun w h => atoms_spec B.pre w (List.mem_cons_of_mem _ h)
  have hown : s.vm.findClass RX11 = some m.cls := findClass_of_methodNamed B.named
  have hlocks := B.notSynchronized
  have hl := lv_entry ([.ref h0, .int p0]) (n := 3) (Nat.le_of_ble_eq_true rfl)
  rw [lg_entry_eq]
  generalize (lg_sl ([.ref h0, .int p0]) ++ List.replicate (3 - (lg_sl ([.ref h0, .int p0])).length) Slot.unset).toArray = ls at hl ⊢
  have hl : lv_has ls 3 [(0, .ref h0), (1, .int p0)] := hl
  refine lv_aload_n hx hb dX11_ends_0 rfl (lv_at hl 0 rfl) ?_
  refine lv_iload_n hx hb dX11_ends_1 rfl (lv_at hl 1 rfl) ?_
  refine lv_iconst (v := 1) hx hb dX11_ends_2 (by decide) ?_
  refine cpVi (rest := []) ⟨hx, hb, hml, hown, hts⟩ hKN (hP.sub (ws' := [(h0, .inr (11, [.ref tp, .ref rd, .ref g, .ref ev, .ref im, .ref sl, .ref co, .ref pa, .ref sp, .ref ba, .ref we])), (g, .inr (3, [.int 0, .int 0, .int 0, .int 0, .int 0, .int 0, .int 0, .int 0, .ref g_sides, .ref g_grips, .ref g_wits, .ref g_says, .ref g_gives0, .ref g_gives1, .ref g_froms, .ref g_tos]))]) [0, 1] rfl) (k_X11_isHold l D cA h0 tp rd g ev im sl co pa sp ba we g_sides g_grips g_wits g_says g_gives0 g_gives1 g_froms g_tos p0 1) (tb_V tw_934 tw_936 tw_16 tw_101 tw_937) hdX11_isHold ⟨rfl, rfl, Nat.le_of_ble_eq_true rfl, Nat.le_of_ble_eq_true rfl⟩ ⟨Nat.le_of_ble_eq_true rfl, Nat.le_of_ble_eq_true rfl⟩ rfl rfl rfl hl.1 rfl (Nat.le_of_ble_eq_true rfl) dX11_ends_3 (fun r_1 hr_1 => ?_)
  obtain rfl : r_1 = 0 := hr_1
  refine lv_if_ne (tgt := 12) hx hb dX11_ends_6 (by decide) (fun c_2 => absurd (by decide) c_2) (fun c_2 => ?_)
  refine lv_bipush (v := (-2)) hx hb dX11_ends_9 (by decide) ?_
  exact W.iret (v := (-2)) hx hb hr (fun t ht hW => ⟨(-2), rfl, rfl, ht⟩) (fun _ h => by cases h) dX11_ends_11
set_option maxHeartbeats 4000000 in
set_option maxRecDepth 100000 in
theorem k_X11_full (l : Launch) (D : va_G) (cA : Nat → ClassId) (h0 : Nat) (tp : Nat) (rd : Nat) (g : Nat) (ev : Nat) (im : Nat) (sl : Nat) (co : Nat) (pa : Nat) (sp : Nat) (ba : Nat) (we : Nat) (g_sides : Nat) (g_grips : Nat) (g_wits : Nat) (g_says : Nat) (g_gives0 : Nat) (g_gives1 : Nat) (g_froms : Nat) (g_tos : Nat) (p0 : Int32) : Met l yX11_full (Cond.code yX11_full cX11_full 2 (some .int) :: TB) (rmd 2 0 0) (PP D cA [(h0, .inr (11, [.ref tp, .ref rd, .ref g, .ref ev, .ref im, .ref sl, .ref co, .ref pa, .ref sp, .ref ba, .ref we])), (g, .inr (3, [.int 0, .int 0, .int 0, .int 0, .int 0, .int 0, .int 0, .int 0, .ref g_sides, .ref g_grips, .ref g_wits, .ref g_says, .ref g_gives0, .ref g_gives1, .ref g_froms, .ref g_tos]))] [.ref h0, .int p0]) (vp_Si (fun r => r = (-2))) 0 0 (fun _ => False) := by
  refine Met.ofW (cc := cX11_full) (maxL := 2) (ret := (some .int)) (by decide) rfl ?_
  intro p e s m args below meth c s₁ B hml hv
  obtain ⟨rfl, hP, hKN⟩ := hv
  have hx := B.exec
  have hb := B.bytes
  have hr := B.returns
  have hts : ∀ w ∈ TB, w.before _ s = true := fun w h => atoms_spec B.pre w (List.mem_cons_of_mem _ h)
  have hown : s.vm.findClass RX11 = some m.cls := findClass_of_methodNamed B.named
  have hlocks := B.notSynchronized
  have hl := lv_entry ([.ref h0, .int p0]) (n := 2) (Nat.le_of_ble_eq_true rfl)
  rw [lg_entry_eq]
  generalize (lg_sl ([.ref h0, .int p0]) ++ List.replicate (2 - (lg_sl ([.ref h0, .int p0])).length) Slot.unset).toArray = ls at hl ⊢
  have hl : lv_has ls 2 [(0, .ref h0), (1, .int p0)] := hl
  refine lv_aload_n hx hb dX11_full_0 rfl (lv_at hl 0 rfl) ?_
  refine lv_iload_n hx hb dX11_full_1 rfl (lv_at hl 1 rfl) ?_
  refine lv_iconst (v := 0) hx hb dX11_full_2 (by decide) ?_
  refine cpVi (rest := []) ⟨hx, hb, hml, hown, hts⟩ hKN (hP.sub (ws' := [(h0, .inr (11, [.ref tp, .ref rd, .ref g, .ref ev, .ref im, .ref sl, .ref co, .ref pa, .ref sp, .ref ba, .ref we])), (g, .inr (3, [.int 0, .int 0, .int 0, .int 0, .int 0, .int 0, .int 0, .int 0, .ref g_sides, .ref g_grips, .ref g_wits, .ref g_says, .ref g_gives0, .ref g_gives1, .ref g_froms, .ref g_tos]))]) [0, 1] rfl) (k_X11_isHold l D cA h0 tp rd g ev im sl co pa sp ba we g_sides g_grips g_wits g_says g_gives0 g_gives1 g_froms g_tos p0 0) (tb_V tw_934 tw_936 tw_16 tw_101 tw_937) hdX11_isHold ⟨rfl, rfl, Nat.le_of_ble_eq_true rfl, Nat.le_of_ble_eq_true rfl⟩ ⟨Nat.le_of_ble_eq_true rfl, Nat.le_of_ble_eq_true rfl⟩ rfl rfl rfl hl.1 rfl (Nat.le_of_ble_eq_true rfl) dX11_full_3 (fun r_1 hr_1 => ?_)
  obtain rfl : r_1 = 0 := hr_1
  refine lv_if_eq (tgt := 23) hx hb dX11_full_6 (by decide) (fun c_2 => ?_) (fun c_2 => absurd (by decide) c_2)
  refine lv_bipush (v := (-2)) hx hb dX11_full_23 (by decide) ?_
  exact W.iret (v := (-2)) hx hb hr (fun t ht hW => ⟨(-2), rfl, rfl, ht⟩) (fun _ h => by cases h) dX11_full_25
set_option maxHeartbeats 4000000 in
set_option maxRecDepth 100000 in
theorem k_X11_fulls (l : Launch) (D : va_G) (cA : Nat → ClassId) (h0 : Nat) (tp : Nat) (rd : Nat) (g : Nat) (ev : Nat) (im : Nat) (sl : Nat) (co : Nat) (pa : Nat) (sp : Nat) (ba : Nat) (we : Nat) (g_sides : Nat) (g_grips : Nat) (g_wits : Nat) (g_says : Nat) (g_gives0 : Nat) (g_gives1 : Nat) (g_froms : Nat) (g_tos : Nat) (p0 : Int32) : Met l yX11_fulls (Cond.code yX11_fulls cX11_fulls 2 (some .int) :: TB) (rmd 2 0 0) (PP D cA [(h0, .inr (11, [.ref tp, .ref rd, .ref g, .ref ev, .ref im, .ref sl, .ref co, .ref pa, .ref sp, .ref ba, .ref we])), (g, .inr (3, [.int 0, .int 0, .int 0, .int 0, .int 0, .int 0, .int 0, .int 0, .ref g_sides, .ref g_grips, .ref g_wits, .ref g_says, .ref g_gives0, .ref g_gives1, .ref g_froms, .ref g_tos]))] [.ref h0, .int p0]) (vp_Si (fun r => r = (-2))) 0 0 (fun _ => False) := by
  refine Met.ofW (cc := cX11_fulls) (maxL := 2) (ret := (some .int)) (by decide) rfl ?_
  intro p e s m args below meth c s₁ B hml hv
  obtain ⟨rfl, hP, hKN⟩ := hv
  have hx := B.exec
  have hb := B.bytes
  have hr := B.returns
  have hts : ∀ w ∈ TB, w.before _ s = true := fun w h => atoms_spec B.pre w (List.mem_cons_of_mem _ h)
  have hown : s.vm.findClass RX11 = some m.cls := findClass_of_methodNamed B.named
  have hlocks := B.notSynchronized
  have hl := lv_entry ([.ref h0, .int p0]) (n := 2) (Nat.le_of_ble_eq_true rfl)
  rw [lg_entry_eq]
  generalize (lg_sl ([.ref h0, .int p0]) ++ List.replicate (2 - (lg_sl ([.ref h0, .int p0])).length) Slot.unset).toArray = ls at hl ⊢
  have hl : lv_has ls 2 [(0, .ref h0), (1, .int p0)] := hl
  refine lv_aload_n hx hb dX11_fulls_0 rfl (lv_at hl 0 rfl) ?_
  refine lv_iload_n hx hb dX11_fulls_1 rfl (lv_at hl 1 rfl) ?_
  refine lv_iconst (v := 0) hx hb dX11_fulls_2 (by decide) ?_
  refine cpVi (rest := []) ⟨hx, hb, hml, hown, hts⟩ hKN (hP.sub (ws' := [(h0, .inr (11, [.ref tp, .ref rd, .ref g, .ref ev, .ref im, .ref sl, .ref co, .ref pa, .ref sp, .ref ba, .ref we])), (g, .inr (3, [.int 0, .int 0, .int 0, .int 0, .int 0, .int 0, .int 0, .int 0, .ref g_sides, .ref g_grips, .ref g_wits, .ref g_says, .ref g_gives0, .ref g_gives1, .ref g_froms, .ref g_tos]))]) [0, 1] rfl) (k_X11_isHold l D cA h0 tp rd g ev im sl co pa sp ba we g_sides g_grips g_wits g_says g_gives0 g_gives1 g_froms g_tos p0 0) (tb_V tw_934 tw_936 tw_16 tw_101 tw_937) hdX11_isHold ⟨rfl, rfl, Nat.le_of_ble_eq_true rfl, Nat.le_of_ble_eq_true rfl⟩ ⟨Nat.le_of_ble_eq_true rfl, Nat.le_of_ble_eq_true rfl⟩ rfl rfl rfl hl.1 rfl (Nat.le_of_ble_eq_true rfl) dX11_fulls_3 (fun r_1 hr_1 => ?_)
  obtain rfl : r_1 = 0 := hr_1
  refine lv_if_eq (tgt := 20) hx hb dX11_fulls_6 (by decide) (fun c_2 => ?_) (fun c_2 => absurd (by decide) c_2)
  refine lv_bipush (v := (-2)) hx hb dX11_fulls_20 (by decide) ?_
  exact W.iret (v := (-2)) hx hb hr (fun t ht hW => ⟨(-2), rfl, rfl, ht⟩) (fun _ h => by cases h) dX11_fulls_22
set_option maxHeartbeats 4000000 in
set_option maxRecDepth 100000 in
theorem k_X11_once (l : Launch) (D : va_G) (cA : Nat → ClassId) (h0 : Nat) (tp : Nat) (rd : Nat) (g : Nat) (ev : Nat) (im : Nat) (sl : Nat) (co : Nat) (pa : Nat) (sp : Nat) (ba : Nat) (we : Nat) (g_sides : Nat) (g_grips : Nat) (g_wits : Nat) (g_says : Nat) (g_gives0 : Nat) (g_gives1 : Nat) (g_froms : Nat) (g_tos : Nat) (p0 : Int32) : Met l yX11_once (Cond.code yX11_once cX11_once 2 (some .int) :: TB) (rmd 2 0 0) (PP D cA [(h0, .inr (11, [.ref tp, .ref rd, .ref g, .ref ev, .ref im, .ref sl, .ref co, .ref pa, .ref sp, .ref ba, .ref we])), (g, .inr (3, [.int 0, .int 0, .int 0, .int 0, .int 0, .int 0, .int 0, .int 0, .ref g_sides, .ref g_grips, .ref g_wits, .ref g_says, .ref g_gives0, .ref g_gives1, .ref g_froms, .ref g_tos]))] [.ref h0, .int p0]) (vp_Si (fun r => r = (-2))) 0 0 (fun _ => False) := by
  refine Met.ofW (cc := cX11_once) (maxL := 2) (ret := (some .int)) (by decide) rfl ?_
  intro p e s m args below meth c s₁ B hml hv
  obtain ⟨rfl, hP, hKN⟩ := hv
  have hx := B.exec
  have hb := B.bytes
  have hr := B.returns
  have hts : ∀ w ∈ TB, w.before _ s = true := fun w h => atoms_spec B.pre w (List.mem_cons_of_mem _ h)
  have hown : s.vm.findClass RX11 = some m.cls := findClass_of_methodNamed B.named
  have hlocks := B.notSynchronized
  have hl := lv_entry ([.ref h0, .int p0]) (n := 2) (Nat.le_of_ble_eq_true rfl)
  rw [lg_entry_eq]
  generalize (lg_sl ([.ref h0, .int p0]) ++ List.replicate (2 - (lg_sl ([.ref h0, .int p0])).length) Slot.unset).toArray = ls at hl ⊢
  have hl : lv_has ls 2 [(0, .ref h0), (1, .int p0)] := hl
  refine lv_aload_n hx hb dX11_once_0 rfl (lv_at hl 0 rfl) ?_
  refine lv_iload_n hx hb dX11_once_1 rfl (lv_at hl 1 rfl) ?_
  refine lv_iconst (v := 0) hx hb dX11_once_2 (by decide) ?_
  refine cpVi (rest := []) ⟨hx, hb, hml, hown, hts⟩ hKN (hP.sub (ws' := [(h0, .inr (11, [.ref tp, .ref rd, .ref g, .ref ev, .ref im, .ref sl, .ref co, .ref pa, .ref sp, .ref ba, .ref we])), (g, .inr (3, [.int 0, .int 0, .int 0, .int 0, .int 0, .int 0, .int 0, .int 0, .ref g_sides, .ref g_grips, .ref g_wits, .ref g_says, .ref g_gives0, .ref g_gives1, .ref g_froms, .ref g_tos]))]) [0, 1] rfl) (k_X11_isHold l D cA h0 tp rd g ev im sl co pa sp ba we g_sides g_grips g_wits g_says g_gives0 g_gives1 g_froms g_tos p0 0) (tb_V tw_934 tw_936 tw_16 tw_101 tw_937) hdX11_isHold ⟨rfl, rfl, Nat.le_of_ble_eq_true rfl, Nat.le_of_ble_eq_true rfl⟩ ⟨Nat.le_of_ble_eq_true rfl, Nat.le_of_ble_eq_true rfl⟩ rfl rfl rfl hl.1 rfl (Nat.le_of_ble_eq_true rfl) dX11_once_3 (fun r_1 hr_1 => ?_)
  obtain rfl : r_1 = 0 := hr_1
  refine lv_if_eq (tgt := 27) hx hb dX11_once_6 (by decide) (fun c_2 => ?_) (fun c_2 => absurd (by decide) c_2)
  refine lv_bipush (v := (-2)) hx hb dX11_once_27 (by decide) ?_
  exact W.iret (v := (-2)) hx hb hr (fun t ht hW => ⟨(-2), rfl, rfl, ht⟩) (fun _ h => by cases h) dX11_once_29
set_option maxHeartbeats 4000000 in
set_option maxRecDepth 100000 in
theorem k_X11_onces (l : Launch) (D : va_G) (cA : Nat → ClassId) (h0 : Nat) (tp : Nat) (rd : Nat) (g : Nat) (ev : Nat) (im : Nat) (sl : Nat) (co : Nat) (pa : Nat) (sp : Nat) (ba : Nat) (we : Nat) (g_sides : Nat) (g_grips : Nat) (g_wits : Nat) (g_says : Nat) (g_gives0 : Nat) (g_gives1 : Nat) (g_froms : Nat) (g_tos : Nat) (p0 : Int32) : Met l yX11_onces (Cond.code yX11_onces cX11_onces 2 (some .int) :: TB) (rmd 2 0 0) (PP D cA [(h0, .inr (11, [.ref tp, .ref rd, .ref g, .ref ev, .ref im, .ref sl, .ref co, .ref pa, .ref sp, .ref ba, .ref we])), (g, .inr (3, [.int 0, .int 0, .int 0, .int 0, .int 0, .int 0, .int 0, .int 0, .ref g_sides, .ref g_grips, .ref g_wits, .ref g_says, .ref g_gives0, .ref g_gives1, .ref g_froms, .ref g_tos]))] [.ref h0, .int p0]) (vp_Si (fun r => r = (-2))) 0 0 (fun _ => False) := by
  refine Met.ofW (cc := cX11_onces) (maxL := 2) (ret := (some .int)) (by decide) rfl ?_
  intro p e s m args below meth c s₁ B hml hv
  obtain ⟨rfl, hP, hKN⟩ := hv
  have hx := B.exec
  have hb := B.bytes
  have hr := B.returns
  have hts : ∀ w ∈ TB, w.before _ s = true := fun w h => atoms_spec B.pre w (List.mem_cons_of_mem _ h)
  have hown : s.vm.findClass RX11 = some m.cls := findClass_of_methodNamed B.named
  have hlocks := B.notSynchronized
  have hl := lv_entry ([.ref h0, .int p0]) (n := 2) (Nat.le_of_ble_eq_true rfl)
  rw [lg_entry_eq]
  generalize (lg_sl ([.ref h0, .int p0]) ++ List.replicate (2 - (lg_sl ([.ref h0, .int p0])).length) Slot.unset).toArray = ls at hl ⊢
  have hl : lv_has ls 2 [(0, .ref h0), (1, .int p0)] := hl
  refine lv_aload_n hx hb dX11_onces_0 rfl (lv_at hl 0 rfl) ?_
  refine lv_iload_n hx hb dX11_onces_1 rfl (lv_at hl 1 rfl) ?_
  refine lv_iconst (v := 0) hx hb dX11_onces_2 (by decide) ?_
  refine cpVi (rest := []) ⟨hx, hb, hml, hown, hts⟩ hKN (hP.sub (ws' := [(h0, .inr (11, [.ref tp, .ref rd, .ref g, .ref ev, .ref im, .ref sl, .ref co, .ref pa, .ref sp, .ref ba, .ref we])), (g, .inr (3, [.int 0, .int 0, .int 0, .int 0, .int 0, .int 0, .int 0, .int 0, .ref g_sides, .ref g_grips, .ref g_wits, .ref g_says, .ref g_gives0, .ref g_gives1, .ref g_froms, .ref g_tos]))]) [0, 1] rfl) (k_X11_isHold l D cA h0 tp rd g ev im sl co pa sp ba we g_sides g_grips g_wits g_says g_gives0 g_gives1 g_froms g_tos p0 0) (tb_V tw_934 tw_936 tw_16 tw_101 tw_937) hdX11_isHold ⟨rfl, rfl, Nat.le_of_ble_eq_true rfl, Nat.le_of_ble_eq_true rfl⟩ ⟨Nat.le_of_ble_eq_true rfl, Nat.le_of_ble_eq_true rfl⟩ rfl rfl rfl hl.1 rfl (Nat.le_of_ble_eq_true rfl) dX11_onces_3 (fun r_1 hr_1 => ?_)
  obtain rfl : r_1 = 0 := hr_1
  refine lv_if_eq (tgt := 20) hx hb dX11_onces_6 (by decide) (fun c_2 => ?_) (fun c_2 => absurd (by decide) c_2)
  refine lv_bipush (v := (-2)) hx hb dX11_onces_20 (by decide) ?_
  exact W.iret (v := (-2)) hx hb hr (fun t ht hW => ⟨(-2), rfl, rfl, ht⟩) (fun _ h => by cases h) dX11_onces_22
set_option maxHeartbeats 4000000 in
set_option maxRecDepth 100000 in
theorem k_X11_signs (l : Launch) (D : va_G) (cA : Nat → ClassId) (h0 : Nat) (tp : Nat) (rd : Nat) (g : Nat) (ev : Nat) (im : Nat) (sl : Nat) (co : Nat) (pa : Nat) (sp : Nat) (ba : Nat) (we : Nat) (g_sides : Nat) (g_grips : Nat) (g_wits : Nat) (g_says : Nat) (g_gives0 : Nat) (g_gives1 : Nat) (g_froms : Nat) (g_tos : Nat) : Met l yX11_signs (Cond.code yX11_signs cX11_signs 1 (some .int) :: TB) (rmd 1 0 0) (PP D cA [(h0, .inr (11, [.ref tp, .ref rd, .ref g, .ref ev, .ref im, .ref sl, .ref co, .ref pa, .ref sp, .ref ba, .ref we])), (g, .inr (3, [.int 0, .int 0, .int 0, .int 0, .int 0, .int 0, .int 0, .int 0, .ref g_sides, .ref g_grips, .ref g_wits, .ref g_says, .ref g_gives0, .ref g_gives1, .ref g_froms, .ref g_tos]))] [.ref h0]) (vp_Si (fun r => r = (-2))) 0 0 (fun _ => False) := by
  refine Met.ofW (cc := cX11_signs) (maxL := 1) (ret := (some .int)) (by decide) rfl ?_
  intro p e s m args below meth c s₁ B hml hv
  obtain ⟨rfl, hP, hKN⟩ := hv
  have hx := B.exec
  have hb := B.bytes
  have hr := B.returns
  have hts : ∀ w ∈ TB, w.before _ s = true := fun w h => atoms_spec B.pre w (List.mem_cons_of_mem _ h)
  have hown : s.vm.findClass RX11 = some m.cls := findClass_of_methodNamed B.named
  have hlocks := B.notSynchronized
  have hl := lv_entry ([.ref h0]) (n := 1) (Nat.le_of_ble_eq_true rfl)
  rw [lg_entry_eq]
  generalize (lg_sl ([.ref h0]) ++ List.replicate (1 - (lg_sl ([.ref h0])).length) Slot.unset).toArray = ls at hl ⊢
  have hl : lv_has ls 1 [(0, .ref h0)] := hl
  refine lv_aload_n hx hb dX11_signs_0 rfl (lv_at hl 0 rfl) ?_
  refine va_get (D := D) (ci := 11) (v := .ref g) (C := RX11) (T := TX11) (N := 11) hx hb hts inX11 hown hKN.1 hP 0 rfl rfl 2 (by decide) (hts _ tw_467) (fun _ h9 => h9) rfl dX11_signs_1 ?_
  refine cpVi (rest := []) ⟨hx, hb, hml, hown, hts⟩ hKN (hP.sub (ws' := [(g, .inr (3, [.int 0, .int 0, .int 0, .int 0, .int 0, .int 0, .int 0, .int 0, .ref g_sides, .ref g_grips, .ref g_wits, .ref g_says, .ref g_gives0, .ref g_gives1, .ref g_froms, .ref g_tos]))]) [1] rfl) (k_X3_exists l D cA g g_sides g_grips g_wits g_says g_gives0 g_gives1 g_froms g_tos) (tb_V tw_768 tw_741 tw_742 tw_104 tw_743) hdX3_exists ⟨rfl, rfl, Nat.le_of_ble_eq_true rfl, Nat.le_of_ble_eq_true rfl⟩ ⟨Nat.le_of_ble_eq_true rfl, Nat.le_of_ble_eq_true rfl⟩ rfl rfl rfl hl.1 rfl (Nat.le_of_ble_eq_true rfl) dX11_signs_4 (fun r_1 hr_1 => ?_)
  obtain rfl : r_1 = 0 := hr_1
  refine lv_if_eq (tgt := 20) hx hb dX11_signs_7 (by decide) (fun c_2 => ?_) (fun c_2 => absurd (by decide) c_2)
  refine lv_bipush (v := (-2)) hx hb dX11_signs_20 (by decide) ?_
  exact W.iret (v := (-2)) hx hb hr (fun t ht hW => ⟨(-2), rfl, rfl, ht⟩) (fun _ h => by cases h) dX11_signs_22
set_option maxHeartbeats 4000000 in
set_option maxRecDepth 100000 in
theorem k_X11_deal (l : Launch) (D : va_G) (cA : Nat → ClassId) (h0 : Nat) (tp : Nat) (rd : Nat) (g : Nat) (ev : Nat) (im : Nat) (sl : Nat) (co : Nat) (pa : Nat) (sp : Nat) (ba : Nat) (we : Nat) (g_sides : Nat) (g_grips : Nat) (g_wits : Nat) (g_says : Nat) (g_gives0 : Nat) (g_gives1 : Nat) (g_froms : Nat) (g_tos : Nat) : Met l yX11_deal (Cond.code yX11_deal cX11_deal 1 (some .int) :: TB) (rmd 1 0 0) (PP D cA [(h0, .inr (11, [.ref tp, .ref rd, .ref g, .ref ev, .ref im, .ref sl, .ref co, .ref pa, .ref sp, .ref ba, .ref we])), (g, .inr (3, [.int 0, .int 0, .int 0, .int 0, .int 0, .int 0, .int 0, .int 0, .ref g_sides, .ref g_grips, .ref g_wits, .ref g_says, .ref g_gives0, .ref g_gives1, .ref g_froms, .ref g_tos]))] [.ref h0]) (vp_Si (fun r => r = (-2))) 0 0 (fun _ => False) := by
  refine Met.ofW (cc := cX11_deal) (maxL := 1) (ret := (some .int)) (by decide) rfl ?_
  intro p e s m args below meth c s₁ B hml hv
  obtain ⟨rfl, hP, hKN⟩ := hv
  have hx := B.exec
  have hb := B.bytes
  have hr := B.returns
  have hts : ∀ w ∈ TB, w.before _ s = true := fun w h => atoms_spec B.pre w (List.mem_cons_of_mem _ h)
  have hown : s.vm.findClass RX11 = some m.cls := findClass_of_methodNamed B.named
  have hlocks := B.notSynchronized
  have hl := lv_entry ([.ref h0]) (n := 1) (Nat.le_of_ble_eq_true rfl)
  rw [lg_entry_eq]
  generalize (lg_sl ([.ref h0]) ++ List.replicate (1 - (lg_sl ([.ref h0])).length) Slot.unset).toArray = ls at hl ⊢
  have hl : lv_has ls 1 [(0, .ref h0)] := hl
  refine lv_aload_n hx hb dX11_deal_0 rfl (lv_at hl 0 rfl) ?_
  refine va_get (D := D) (ci := 11) (v := .ref g) (C := RX11) (T := TX11) (N := 11) hx hb hts inX11 hown hKN.1 hP 0 rfl rfl 2 (by decide) (hts _ tw_467) (fun _ h9 => h9) rfl dX11_deal_1 ?_
  refine cpVi (rest := []) ⟨hx, hb, hml, hown, hts⟩ hKN (hP.sub (ws' := [(g, .inr (3, [.int 0, .int 0, .int 0, .int 0, .int 0, .int 0, .int 0, .int 0, .ref g_sides, .ref g_grips, .ref g_wits, .ref g_says, .ref g_gives0, .ref g_gives1, .ref g_froms, .ref g_tos]))]) [1] rfl) (k_X3_exists l D cA g g_sides g_grips g_wits g_says g_gives0 g_gives1 g_froms g_tos) (tb_V tw_768 tw_741 tw_742 tw_104 tw_743) hdX3_exists ⟨rfl, rfl, Nat.le_of_ble_eq_true rfl, Nat.le_of_ble_eq_true rfl⟩ ⟨Nat.le_of_ble_eq_true rfl, Nat.le_of_ble_eq_true rfl⟩ rfl rfl rfl hl.1 rfl (Nat.le_of_ble_eq_true rfl) dX11_deal_4 (fun r_1 hr_1 => ?_)
  obtain rfl : r_1 = 0 := hr_1
  refine lv_if_eq (tgt := 20) hx hb dX11_deal_7 (by decide) (fun c_2 => ?_) (fun c_2 => absurd (by decide) c_2)
  refine lv_bipush (v := (-2)) hx hb dX11_deal_20 (by decide) ?_
  exact W.iret (v := (-2)) hx hb hr (fun t ht hW => ⟨(-2), rfl, rfl, ht⟩) (fun _ h => by cases h) dX11_deal_22
set_option maxHeartbeats 4000000 in
set_option maxRecDepth 100000 in
theorem k_X11_even (l : Launch) (D : va_G) (cA : Nat → ClassId) (h0 : Nat) (tp : Nat) (rd : Nat) (g : Nat) (ev : Nat) (im : Nat) (sl : Nat) (co : Nat) (pa : Nat) (sp : Nat) (ba : Nat) (we : Nat) (g_sides : Nat) (g_grips : Nat) (g_wits : Nat) (g_says : Nat) (g_gives0 : Nat) (g_gives1 : Nat) (g_froms : Nat) (g_tos : Nat) : Met l yX11_even (Cond.code yX11_even cX11_even 1 (some .int) :: TB) (rmd 1 0 0) (PP D cA [(h0, .inr (11, [.ref tp, .ref rd, .ref g, .ref ev, .ref im, .ref sl, .ref co, .ref pa, .ref sp, .ref ba, .ref we])), (g, .inr (3, [.int 0, .int 0, .int 0, .int 0, .int 0, .int 0, .int 0, .int 0, .ref g_sides, .ref g_grips, .ref g_wits, .ref g_says, .ref g_gives0, .ref g_gives1, .ref g_froms, .ref g_tos]))] [.ref h0]) (vp_Si (fun r => r = (-2))) 0 0 (fun _ => False) := by
  refine Met.ofW (cc := cX11_even) (maxL := 1) (ret := (some .int)) (by decide) rfl ?_
  intro p e s m args below meth c s₁ B hml hv
  obtain ⟨rfl, hP, hKN⟩ := hv
  have hx := B.exec
  have hb := B.bytes
  have hr := B.returns
  have hts : ∀ w ∈ TB, w.before _ s = true := fun w h => atoms_spec B.pre w (List.mem_cons_of_mem _ h)
  have hown : s.vm.findClass RX11 = some m.cls := findClass_of_methodNamed B.named
  have hlocks := B.notSynchronized
  have hl := lv_entry ([.ref h0]) (n := 1) (Nat.le_of_ble_eq_true rfl)
  rw [lg_entry_eq]
  generalize (lg_sl ([.ref h0]) ++ List.replicate (1 - (lg_sl ([.ref h0])).length) Slot.unset).toArray = ls at hl ⊢
  have hl : lv_has ls 1 [(0, .ref h0)] := hl
  refine lv_aload_n hx hb dX11_even_0 rfl (lv_at hl 0 rfl) ?_
  refine va_get (D := D) (ci := 11) (v := .ref g) (C := RX11) (T := TX11) (N := 11) hx hb hts inX11 hown hKN.1 hP 0 rfl rfl 2 (by decide) (hts _ tw_467) (fun _ h9 => h9) rfl dX11_even_1 ?_
  refine cpVi (rest := []) ⟨hx, hb, hml, hown, hts⟩ hKN (hP.sub (ws' := [(g, .inr (3, [.int 0, .int 0, .int 0, .int 0, .int 0, .int 0, .int 0, .int 0, .ref g_sides, .ref g_grips, .ref g_wits, .ref g_says, .ref g_gives0, .ref g_gives1, .ref g_froms, .ref g_tos]))]) [1] rfl) (k_X3_exists l D cA g g_sides g_grips g_wits g_says g_gives0 g_gives1 g_froms g_tos) (tb_V tw_768 tw_741 tw_742 tw_104 tw_743) hdX3_exists ⟨rfl, rfl, Nat.le_of_ble_eq_true rfl, Nat.le_of_ble_eq_true rfl⟩ ⟨Nat.le_of_ble_eq_true rfl, Nat.le_of_ble_eq_true rfl⟩ rfl rfl rfl hl.1 rfl (Nat.le_of_ble_eq_true rfl) dX11_even_4 (fun r_1 hr_1 => ?_)
  obtain rfl : r_1 = 0 := hr_1
  refine lv_if_eq (tgt := 20) hx hb dX11_even_7 (by decide) (fun c_2 => ?_) (fun c_2 => absurd (by decide) c_2)
  refine lv_bipush (v := (-2)) hx hb dX11_even_20 (by decide) ?_
  exact W.iret (v := (-2)) hx hb hr (fun t ht hW => ⟨(-2), rfl, rfl, ht⟩) (fun _ h => by cases h) dX11_even_22
set_option maxHeartbeats 4000000 in
set_option maxRecDepth 100000 in
theorem k_X11_veto (l : Launch) (D : va_G) (cA : Nat → ClassId) (h0 : Nat) (tp : Nat) (rd : Nat) (g : Nat) (ev : Nat) (im : Nat) (sl : Nat) (co : Nat) (pa : Nat) (sp : Nat) (ba : Nat) (we : Nat) (g_sides : Nat) (g_grips : Nat) (g_wits : Nat) (g_says : Nat) (g_gives0 : Nat) (g_gives1 : Nat) (g_froms : Nat) (g_tos : Nat) (p0 : Int32) : Met l yX11_veto (Cond.code yX11_veto cX11_veto 4 (some .int) :: TB) (rmd 2 0 0) (PP D cA [(h0, .inr (11, [.ref tp, .ref rd, .ref g, .ref ev, .ref im, .ref sl, .ref co, .ref pa, .ref sp, .ref ba, .ref we])), (g, .inr (3, [.int 0, .int 0, .int 0, .int 0, .int 0, .int 0, .int 0, .int 0, .ref g_sides, .ref g_grips, .ref g_wits, .ref g_says, .ref g_gives0, .ref g_gives1, .ref g_froms, .ref g_tos]))] [.ref h0, .int p0]) (vp_Si (fun r => r = (-2))) 0 0 (fun _ => False) := by
  refine Met.ofW (cc := cX11_veto) (maxL := 4) (ret := (some .int)) (by decide) rfl ?_
  intro p e s m args below meth c s₁ B hml hv
  obtain ⟨rfl, hP, hKN⟩ := hv
  have hx := B.exec
  have hb := B.bytes
  have hr := B.returns
  have hts : ∀ w ∈ TB, w.before _ s = true := fun w h => atoms_spec B.pre w (List.mem_cons_of_mem _ h)
  have hown : s.vm.findClass RX11 = some m.cls := findClass_of_methodNamed B.named
  have hlocks := B.notSynchronized
  have hl := lv_entry ([.ref h0, .int p0]) (n := 4) (Nat.le_of_ble_eq_true rfl)
  rw [lg_entry_eq]
  generalize (lg_sl ([.ref h0, .int p0]) ++ List.replicate (4 - (lg_sl ([.ref h0, .int p0])).length) Slot.unset).toArray = ls at hl ⊢
  have hl : lv_has ls 4 [(0, .ref h0), (1, .int p0)] := hl
  refine lv_aload_n hx hb dX11_veto_0 rfl (lv_at hl 0 rfl) ?_
  refine va_get (D := D) (ci := 11) (v := .ref g) (C := RX11) (T := TX11) (N := 11) hx hb hts inX11 hown hKN.1 hP 0 rfl rfl 2 (by decide) (hts _ tw_467) (fun _ h9 => h9) rfl dX11_veto_1 ?_
  refine lv_iload_n hx hb dX11_veto_4 rfl (lv_at hl 1 rfl) ?_
  refine cpVi (rest := []) ⟨hx, hb, hml, hown, hts⟩ hKN (hP.sub (ws' := [(g, .inr (3, [.int 0, .int 0, .int 0, .int 0, .int 0, .int 0, .int 0, .int 0, .ref g_sides, .ref g_grips, .ref g_wits, .ref g_says, .ref g_gives0, .ref g_gives1, .ref g_froms, .ref g_tos]))]) [1] rfl) (k_X3_hasSide l D cA g g_sides g_grips g_wits g_says g_gives0 g_gives1 g_froms g_tos p0) (tb_V tw_736 tw_737 tw_738 tw_104 tw_739) hdX3_hasSide ⟨rfl, rfl, Nat.le_of_ble_eq_true rfl, Nat.le_of_ble_eq_true rfl⟩ ⟨Nat.le_of_ble_eq_true rfl, Nat.le_of_ble_eq_true rfl⟩ rfl rfl rfl hl.1 rfl (Nat.le_of_ble_eq_true rfl) dX11_veto_5 (fun r_1 hr_1 => ?_)
  obtain rfl : r_1 = 0 := hr_1
  refine lv_if_ne (tgt := 14) hx hb dX11_veto_8 (by decide) (fun c_2 => absurd (by decide) c_2) (fun c_2 => ?_)
  refine lv_bipush (v := (-2)) hx hb dX11_veto_11 (by decide) ?_
  exact W.iret (v := (-2)) hx hb hr (fun t ht hW => ⟨(-2), rfl, rfl, ht⟩) (fun _ h => by cases h) dX11_veto_13
set_option maxHeartbeats 4000000 in
set_option maxRecDepth 100000 in
theorem k_X11_must (l : Launch) (D : va_G) (cA : Nat → ClassId) (h0 : Nat) (tp : Nat) (rd : Nat) (g : Nat) (ev : Nat) (im : Nat) (sl : Nat) (co : Nat) (pa : Nat) (sp : Nat) (ba : Nat) (we : Nat) (g_sides : Nat) (g_grips : Nat) (g_wits : Nat) (g_says : Nat) (g_gives0 : Nat) (g_gives1 : Nat) (g_froms : Nat) (g_tos : Nat) (p0 : Int32) : Met l yX11_must (Cond.code yX11_must cX11_must 2 (some .int) :: TB) (rmd 2 0 0) (PP D cA [(h0, .inr (11, [.ref tp, .ref rd, .ref g, .ref ev, .ref im, .ref sl, .ref co, .ref pa, .ref sp, .ref ba, .ref we])), (g, .inr (3, [.int 0, .int 0, .int 0, .int 0, .int 0, .int 0, .int 0, .int 0, .ref g_sides, .ref g_grips, .ref g_wits, .ref g_says, .ref g_gives0, .ref g_gives1, .ref g_froms, .ref g_tos]))] [.ref h0, .int p0]) (vp_Si (fun r => r = (-2))) 0 0 (fun _ => False) := by
  refine Met.ofW (cc := cX11_must) (maxL := 2) (ret := (some .int)) (by decide) rfl ?_
  intro p e s m args below meth c s₁ B hml hv
  obtain ⟨rfl, hP, hKN⟩ := hv
  have hx := B.exec
  have hb := B.bytes
  have hr := B.returns
  have hts : ∀ w ∈ TB, w.before _ s = true := fun w h => atoms_spec B.pre w (List.mem_cons_of_mem _ h)
  have hown : s.vm.findClass RX11 = some m.cls := findClass_of_methodNamed B.named
  have hlocks := B.notSynchronized
  have hl := lv_entry ([.ref h0, .int p0]) (n := 2) (Nat.le_of_ble_eq_true rfl)
  rw [lg_entry_eq]
  generalize (lg_sl ([.ref h0, .int p0]) ++ List.replicate (2 - (lg_sl ([.ref h0, .int p0])).length) Slot.unset).toArray = ls at hl ⊢
  have hl : lv_has ls 2 [(0, .ref h0), (1, .int p0)] := hl
  refine lv_aload_n hx hb dX11_must_0 rfl (lv_at hl 0 rfl) ?_
  refine va_get (D := D) (ci := 11) (v := .ref g) (C := RX11) (T := TX11) (N := 11) hx hb hts inX11 hown hKN.1 hP 0 rfl rfl 2 (by decide) (hts _ tw_467) (fun _ h9 => h9) rfl dX11_must_1 ?_
  refine lv_iload_n hx hb dX11_must_4 rfl (lv_at hl 1 rfl) ?_
  refine cpVi (rest := []) ⟨hx, hb, hml, hown, hts⟩ hKN (hP.sub (ws' := [(g, .inr (3, [.int 0, .int 0, .int 0, .int 0, .int 0, .int 0, .int 0, .int 0, .ref g_sides, .ref g_grips, .ref g_wits, .ref g_says, .ref g_gives0, .ref g_gives1, .ref g_froms, .ref g_tos]))]) [1] rfl) (k_X3_hasSide l D cA g g_sides g_grips g_wits g_says g_gives0 g_gives1 g_froms g_tos p0) (tb_V tw_736 tw_737 tw_738 tw_104 tw_739) hdX3_hasSide ⟨rfl, rfl, Nat.le_of_ble_eq_true rfl, Nat.le_of_ble_eq_true rfl⟩ ⟨Nat.le_of_ble_eq_true rfl, Nat.le_of_ble_eq_true rfl⟩ rfl rfl rfl hl.1 rfl (Nat.le_of_ble_eq_true rfl) dX11_must_5 (fun r_1 hr_1 => ?_)
  obtain rfl : r_1 = 0 := hr_1
  refine lv_if_eq (tgt := 25) hx hb dX11_must_8 (by decide) (fun c_2 => ?_) (fun c_2 => absurd (by decide) c_2)
  refine lv_bipush (v := (-2)) hx hb dX11_must_25 (by decide) ?_
  exact W.iret (v := (-2)) hx hb hr (fun t ht hW => ⟨(-2), rfl, rfl, ht⟩) (fun _ h => by cases h) dX11_must_27
set_option maxHeartbeats 4000000 in
set_option maxRecDepth 100000 in
theorem k_X11_musts (l : Launch) (D : va_G) (cA : Nat → ClassId) (h0 : Nat) (tp : Nat) (rd : Nat) (g : Nat) (ev : Nat) (im : Nat) (sl : Nat) (co : Nat) (pa : Nat) (sp : Nat) (ba : Nat) (we : Nat) (g_sides : Nat) (g_grips : Nat) (g_wits : Nat) (g_says : Nat) (g_gives0 : Nat) (g_gives1 : Nat) (g_froms : Nat) (g_tos : Nat) (p0 : Int32) : Met l yX11_musts (Cond.code yX11_musts cX11_musts 2 (some .int) :: TB) (rmd 2 0 0) (PP D cA [(h0, .inr (11, [.ref tp, .ref rd, .ref g, .ref ev, .ref im, .ref sl, .ref co, .ref pa, .ref sp, .ref ba, .ref we])), (g, .inr (3, [.int 0, .int 0, .int 0, .int 0, .int 0, .int 0, .int 0, .int 0, .ref g_sides, .ref g_grips, .ref g_wits, .ref g_says, .ref g_gives0, .ref g_gives1, .ref g_froms, .ref g_tos]))] [.ref h0, .int p0]) (vp_Si (fun r => r = (-2))) 0 0 (fun _ => False) := by
  refine Met.ofW (cc := cX11_musts) (maxL := 2) (ret := (some .int)) (by decide) rfl ?_
  intro p e s m args below meth c s₁ B hml hv
  obtain ⟨rfl, hP, hKN⟩ := hv
  have hx := B.exec
  have hb := B.bytes
  have hr := B.returns
  have hts : ∀ w ∈ TB, w.before _ s = true := fun w h => atoms_spec B.pre w (List.mem_cons_of_mem _ h)
  have hown : s.vm.findClass RX11 = some m.cls := findClass_of_methodNamed B.named
  have hlocks := B.notSynchronized
  have hl := lv_entry ([.ref h0, .int p0]) (n := 2) (Nat.le_of_ble_eq_true rfl)
  rw [lg_entry_eq]
  generalize (lg_sl ([.ref h0, .int p0]) ++ List.replicate (2 - (lg_sl ([.ref h0, .int p0])).length) Slot.unset).toArray = ls at hl ⊢
  have hl : lv_has ls 2 [(0, .ref h0), (1, .int p0)] := hl
  refine lv_aload_n hx hb dX11_musts_0 rfl (lv_at hl 0 rfl) ?_
  refine va_get (D := D) (ci := 11) (v := .ref g) (C := RX11) (T := TX11) (N := 11) hx hb hts inX11 hown hKN.1 hP 0 rfl rfl 2 (by decide) (hts _ tw_467) (fun _ h9 => h9) rfl dX11_musts_1 ?_
  refine lv_iload_n hx hb dX11_musts_4 rfl (lv_at hl 1 rfl) ?_
  refine cpVi (rest := []) ⟨hx, hb, hml, hown, hts⟩ hKN (hP.sub (ws' := [(g, .inr (3, [.int 0, .int 0, .int 0, .int 0, .int 0, .int 0, .int 0, .int 0, .ref g_sides, .ref g_grips, .ref g_wits, .ref g_says, .ref g_gives0, .ref g_gives1, .ref g_froms, .ref g_tos]))]) [1] rfl) (k_X3_hasSide l D cA g g_sides g_grips g_wits g_says g_gives0 g_gives1 g_froms g_tos p0) (tb_V tw_736 tw_737 tw_738 tw_104 tw_739) hdX3_hasSide ⟨rfl, rfl, Nat.le_of_ble_eq_true rfl, Nat.le_of_ble_eq_true rfl⟩ ⟨Nat.le_of_ble_eq_true rfl, Nat.le_of_ble_eq_true rfl⟩ rfl rfl rfl hl.1 rfl (Nat.le_of_ble_eq_true rfl) dX11_musts_5 (fun r_1 hr_1 => ?_)
  obtain rfl : r_1 = 0 := hr_1
  refine lv_if_eq (tgt := 22) hx hb dX11_musts_8 (by decide) (fun c_2 => ?_) (fun c_2 => absurd (by decide) c_2)
  refine lv_bipush (v := (-2)) hx hb dX11_musts_22 (by decide) ?_
  exact W.iret (v := (-2)) hx hb hr (fun t ht hW => ⟨(-2), rfl, rfl, ht⟩) (fun _ h => by cases h) dX11_musts_24
set_option maxHeartbeats 4000000 in
set_option maxRecDepth 100000 in
theorem k_X11_bundles (l : Launch) (D : va_G) (cA : Nat → ClassId) (h0 : Nat) (tp : Nat) (rd : Nat) (g : Nat) (ev : Nat) (im : Nat) (sl : Nat) (co : Nat) (pa : Nat) (sp : Nat) (ba : Nat) (we : Nat) (g_sides : Nat) (g_grips : Nat) (g_wits : Nat) (g_says : Nat) (g_gives0 : Nat) (g_gives1 : Nat) (g_froms : Nat) (g_tos : Nat) : Met l yX11_bundles (Cond.code yX11_bundles cX11_bundles 1 (some .int) :: TB) (rmd 1 0 0) (PP D cA [(h0, .inr (11, [.ref tp, .ref rd, .ref g, .ref ev, .ref im, .ref sl, .ref co, .ref pa, .ref sp, .ref ba, .ref we])), (g, .inr (3, [.int 0, .int 0, .int 0, .int 0, .int 0, .int 0, .int 0, .int 0, .ref g_sides, .ref g_grips, .ref g_wits, .ref g_says, .ref g_gives0, .ref g_gives1, .ref g_froms, .ref g_tos]))] [.ref h0]) (vp_Si (fun r => r = (-2))) 0 0 (fun _ => False) := by
  refine Met.ofW (cc := cX11_bundles) (maxL := 1) (ret := (some .int)) (by decide) rfl ?_
  intro p e s m args below meth c s₁ B hml hv
  obtain ⟨rfl, hP, hKN⟩ := hv
  have hx := B.exec
  have hb := B.bytes
  have hr := B.returns
  have hts : ∀ w ∈ TB, w.before _ s = true := fun w h => atoms_spec B.pre w (List.mem_cons_of_mem _ h)
  have hown : s.vm.findClass RX11 = some m.cls := findClass_of_methodNamed B.named
  have hlocks := B.notSynchronized
  have hl := lv_entry ([.ref h0]) (n := 1) (Nat.le_of_ble_eq_true rfl)
  rw [lg_entry_eq]
  generalize (lg_sl ([.ref h0]) ++ List.replicate (1 - (lg_sl ([.ref h0])).length) Slot.unset).toArray = ls at hl ⊢
  have hl : lv_has ls 1 [(0, .ref h0)] := hl
  refine lv_aload_n hx hb dX11_bundles_0 rfl (lv_at hl 0 rfl) ?_
  refine va_get (D := D) (ci := 11) (v := .ref g) (C := RX11) (T := TX11) (N := 11) hx hb hts inX11 hown hKN.1 hP 0 rfl rfl 2 (by decide) (hts _ tw_467) (fun _ h9 => h9) rfl dX11_bundles_1 ?_
  refine cpVi (rest := []) ⟨hx, hb, hml, hown, hts⟩ hKN (hP.sub (ws' := [(g, .inr (3, [.int 0, .int 0, .int 0, .int 0, .int 0, .int 0, .int 0, .int 0, .ref g_sides, .ref g_grips, .ref g_wits, .ref g_says, .ref g_gives0, .ref g_gives1, .ref g_froms, .ref g_tos]))]) [1] rfl) (k_X3_exists l D cA g g_sides g_grips g_wits g_says g_gives0 g_gives1 g_froms g_tos) (tb_V tw_768 tw_741 tw_742 tw_104 tw_743) hdX3_exists ⟨rfl, rfl, Nat.le_of_ble_eq_true rfl, Nat.le_of_ble_eq_true rfl⟩ ⟨Nat.le_of_ble_eq_true rfl, Nat.le_of_ble_eq_true rfl⟩ rfl rfl rfl hl.1 rfl (Nat.le_of_ble_eq_true rfl) dX11_bundles_4 (fun r_1 hr_1 => ?_)
  obtain rfl : r_1 = 0 := hr_1
  refine lv_if_ne (tgt := 13) hx hb dX11_bundles_7 (by decide) (fun c_2 => absurd (by decide) c_2) (fun c_2 => ?_)
  refine lv_bipush (v := (-2)) hx hb dX11_bundles_10 (by decide) ?_
  exact W.iret (v := (-2)) hx hb hr (fun t ht hW => ⟨(-2), rfl, rfl, ht⟩) (fun _ h => by cases h) dX11_bundles_12
set_option maxHeartbeats 4000000 in
set_option maxRecDepth 100000 in
theorem k_X11_bundle (l : Launch) (D : va_G) (cA : Nat → ClassId) (h0 : Nat) (tp : Nat) (rd : Nat) (g : Nat) (ev : Nat) (im : Nat) (sl : Nat) (co : Nat) (pa : Nat) (sp : Nat) (ba : Nat) (we : Nat) (g_sides : Nat) (g_grips : Nat) (g_wits : Nat) (g_says : Nat) (g_gives0 : Nat) (g_gives1 : Nat) (g_froms : Nat) (g_tos : Nat) : Met l yX11_bundle (Cond.code yX11_bundle cX11_bundle 1 (some .int) :: TB) (rmd 1 0 0) (PP D cA [(h0, .inr (11, [.ref tp, .ref rd, .ref g, .ref ev, .ref im, .ref sl, .ref co, .ref pa, .ref sp, .ref ba, .ref we])), (g, .inr (3, [.int 0, .int 0, .int 0, .int 0, .int 0, .int 0, .int 0, .int 0, .ref g_sides, .ref g_grips, .ref g_wits, .ref g_says, .ref g_gives0, .ref g_gives1, .ref g_froms, .ref g_tos]))] [.ref h0]) (vp_Si (fun r => r = (-2))) 0 0 (fun _ => False) := by
  refine Met.ofW (cc := cX11_bundle) (maxL := 1) (ret := (some .int)) (by decide) rfl ?_
  intro p e s m args below meth c s₁ B hml hv
  obtain ⟨rfl, hP, hKN⟩ := hv
  have hx := B.exec
  have hb := B.bytes
  have hr := B.returns
  have hts : ∀ w ∈ TB, w.before _ s = true := fun w h => atoms_spec B.pre w (List.mem_cons_of_mem _ h)
  have hown : s.vm.findClass RX11 = some m.cls := findClass_of_methodNamed B.named
  have hlocks := B.notSynchronized
  have hl := lv_entry ([.ref h0]) (n := 1) (Nat.le_of_ble_eq_true rfl)
  rw [lg_entry_eq]
  generalize (lg_sl ([.ref h0]) ++ List.replicate (1 - (lg_sl ([.ref h0])).length) Slot.unset).toArray = ls at hl ⊢
  have hl : lv_has ls 1 [(0, .ref h0)] := hl
  refine lv_aload_n hx hb dX11_bundle_0 rfl (lv_at hl 0 rfl) ?_
  refine va_get (D := D) (ci := 11) (v := .ref g) (C := RX11) (T := TX11) (N := 11) hx hb hts inX11 hown hKN.1 hP 0 rfl rfl 2 (by decide) (hts _ tw_467) (fun _ h9 => h9) rfl dX11_bundle_1 ?_
  refine cpVi (rest := []) ⟨hx, hb, hml, hown, hts⟩ hKN (hP.sub (ws' := [(g, .inr (3, [.int 0, .int 0, .int 0, .int 0, .int 0, .int 0, .int 0, .int 0, .ref g_sides, .ref g_grips, .ref g_wits, .ref g_says, .ref g_gives0, .ref g_gives1, .ref g_froms, .ref g_tos]))]) [1] rfl) (k_X3_exists l D cA g g_sides g_grips g_wits g_says g_gives0 g_gives1 g_froms g_tos) (tb_V tw_768 tw_741 tw_742 tw_104 tw_743) hdX3_exists ⟨rfl, rfl, Nat.le_of_ble_eq_true rfl, Nat.le_of_ble_eq_true rfl⟩ ⟨Nat.le_of_ble_eq_true rfl, Nat.le_of_ble_eq_true rfl⟩ rfl rfl rfl hl.1 rfl (Nat.le_of_ble_eq_true rfl) dX11_bundle_4 (fun r_1 hr_1 => ?_)
  obtain rfl : r_1 = 0 := hr_1
  refine lv_if_ne (tgt := 13) hx hb dX11_bundle_7 (by decide) (fun c_2 => absurd (by decide) c_2) (fun c_2 => ?_)
  refine lv_bipush (v := (-2)) hx hb dX11_bundle_10 (by decide) ?_
  exact W.iret (v := (-2)) hx hb hr (fun t ht hW => ⟨(-2), rfl, rfl, ht⟩) (fun _ h => by cases h) dX11_bundle_12
set_option maxHeartbeats 4000000 in
set_option maxRecDepth 100000 in
theorem k_X11_firm (l : Launch) (D : va_G) (cA : Nat → ClassId) (h0 : Nat) (tp : Nat) (rd : Nat) (g : Nat) (ev : Nat) (im : Nat) (sl : Nat) (co : Nat) (pa : Nat) (sp : Nat) (ba : Nat) (we : Nat) (g_sides : Nat) (g_grips : Nat) (g_wits : Nat) (g_says : Nat) (g_gives0 : Nat) (g_gives1 : Nat) (g_froms : Nat) (g_tos : Nat) : Met l yX11_firm (Cond.code yX11_firm cX11_firm 1 (some .int) :: TB) (rmd 1 0 0) (PP D cA [(h0, .inr (11, [.ref tp, .ref rd, .ref g, .ref ev, .ref im, .ref sl, .ref co, .ref pa, .ref sp, .ref ba, .ref we])), (g, .inr (3, [.int 0, .int 0, .int 0, .int 0, .int 0, .int 0, .int 0, .int 0, .ref g_sides, .ref g_grips, .ref g_wits, .ref g_says, .ref g_gives0, .ref g_gives1, .ref g_froms, .ref g_tos]))] [.ref h0]) (vp_Si (fun r => r = (-2))) 0 0 (fun _ => False) := by
  refine Met.ofW (cc := cX11_firm) (maxL := 1) (ret := (some .int)) (by decide) rfl ?_
  intro p e s m args below meth c s₁ B hml hv
  obtain ⟨rfl, hP, hKN⟩ := hv
  have hx := B.exec
  have hb := B.bytes
  have hr := B.returns
  have hts : ∀ w ∈ TB, w.before _ s = true := fun w h => atoms_spec B.pre w (List.mem_cons_of_mem _ h)
  have hown : s.vm.findClass RX11 = some m.cls := findClass_of_methodNamed B.named
  have hlocks := B.notSynchronized
  have hl := lv_entry ([.ref h0]) (n := 1) (Nat.le_of_ble_eq_true rfl)
  rw [lg_entry_eq]
  generalize (lg_sl ([.ref h0]) ++ List.replicate (1 - (lg_sl ([.ref h0])).length) Slot.unset).toArray = ls at hl ⊢
  have hl : lv_has ls 1 [(0, .ref h0)] := hl
  refine lv_aload_n hx hb dX11_firm_0 rfl (lv_at hl 0 rfl) ?_
  refine va_get (D := D) (ci := 11) (v := .ref g) (C := RX11) (T := TX11) (N := 11) hx hb hts inX11 hown hKN.1 hP 0 rfl rfl 2 (by decide) (hts _ tw_467) (fun _ h9 => h9) rfl dX11_firm_1 ?_
  refine cpVi (rest := []) ⟨hx, hb, hml, hown, hts⟩ hKN (hP.sub (ws' := [(g, .inr (3, [.int 0, .int 0, .int 0, .int 0, .int 0, .int 0, .int 0, .int 0, .ref g_sides, .ref g_grips, .ref g_wits, .ref g_says, .ref g_gives0, .ref g_gives1, .ref g_froms, .ref g_tos]))]) [1] rfl) (k_X3_exists l D cA g g_sides g_grips g_wits g_says g_gives0 g_gives1 g_froms g_tos) (tb_V tw_768 tw_741 tw_742 tw_104 tw_743) hdX3_exists ⟨rfl, rfl, Nat.le_of_ble_eq_true rfl, Nat.le_of_ble_eq_true rfl⟩ ⟨Nat.le_of_ble_eq_true rfl, Nat.le_of_ble_eq_true rfl⟩ rfl rfl rfl hl.1 rfl (Nat.le_of_ble_eq_true rfl) dX11_firm_4 (fun r_1 hr_1 => ?_)
  obtain rfl : r_1 = 0 := hr_1
  refine lv_if_eq (tgt := 20) hx hb dX11_firm_7 (by decide) (fun c_2 => ?_) (fun c_2 => absurd (by decide) c_2)
  refine lv_bipush (v := (-2)) hx hb dX11_firm_20 (by decide) ?_
  exact W.iret (v := (-2)) hx hb hr (fun t ht hW => ⟨(-2), rfl, rfl, ht⟩) (fun _ h => by cases h) dX11_firm_22
set_option maxHeartbeats 4000000 in
set_option maxRecDepth 100000 in
theorem k_X11_rests (l : Launch) (D : va_G) (cA : Nat → ClassId) (h0 : Nat) (tp : Nat) (rd : Nat) (g : Nat) (ev : Nat) (im : Nat) (sl : Nat) (co : Nat) (pa : Nat) (sp : Nat) (ba : Nat) (we : Nat) (g_sides : Nat) (g_grips : Nat) (g_wits : Nat) (g_says : Nat) (g_gives0 : Nat) (g_gives1 : Nat) (g_froms : Nat) (g_tos : Nat) (p0 : Int32) (p1 : Int32) : Met l yX11_rests (Cond.code yX11_rests cX11_rests 4 (some .int) :: TB) (rmd 1 0 0) (PP D cA [(h0, .inr (11, [.ref tp, .ref rd, .ref g, .ref ev, .ref im, .ref sl, .ref co, .ref pa, .ref sp, .ref ba, .ref we])), (g, .inr (3, [.int 0, .int 0, .int 0, .int 0, .int 0, .int 0, .int 0, .int 0, .ref g_sides, .ref g_grips, .ref g_wits, .ref g_says, .ref g_gives0, .ref g_gives1, .ref g_froms, .ref g_tos]))] [.ref h0, .int p0, .int p1]) (vp_Si (fun r => r = (-2))) 0 0 (fun _ => False) := by
  refine Met.ofW (cc := cX11_rests) (maxL := 4) (ret := (some .int)) (by decide) rfl ?_
  intro p e s m args below meth c s₁ B hml hv
  obtain ⟨rfl, hP, hKN⟩ := hv
  have hx := B.exec
  have hb := B.bytes
  have hr := B.returns
  have hts : ∀ w ∈ TB, w.before _ s = true := fun w h => atoms_spec B.pre w (List.mem_cons_of_mem _ h)
  have hown : s.vm.findClass RX11 = some m.cls := findClass_of_methodNamed B.named
  have hlocks := B.notSynchronized
  have hl := lv_entry ([.ref h0, .int p0, .int p1]) (n := 4) (Nat.le_of_ble_eq_true rfl)
  rw [lg_entry_eq]
  generalize (lg_sl ([.ref h0, .int p0, .int p1]) ++ List.replicate (4 - (lg_sl ([.ref h0, .int p0, .int p1])).length) Slot.unset).toArray = ls at hl ⊢
  have hl : lv_has ls 4 [(0, .ref h0), (1, .int p0), (2, .int p1)] := hl
  refine lv_aload_n hx hb dX11_rests_0 rfl (lv_at hl 0 rfl) ?_
  refine va_get (D := D) (ci := 11) (v := .ref g) (C := RX11) (T := TX11) (N := 11) hx hb hts inX11 hown hKN.1 hP 0 rfl rfl 2 (by decide) (hts _ tw_467) (fun _ h9 => h9) rfl dX11_rests_1 ?_
  refine lv_iload_n hx hb dX11_rests_4 rfl (lv_at hl 1 rfl) ?_
  refine cpVi (rest := []) ⟨hx, hb, hml, hown, hts⟩ hKN (hP.sub (ws' := [(g, .inr (3, [.int 0, .int 0, .int 0, .int 0, .int 0, .int 0, .int 0, .int 0, .ref g_sides, .ref g_grips, .ref g_wits, .ref g_says, .ref g_gives0, .ref g_gives1, .ref g_froms, .ref g_tos]))]) [1] rfl) (k_X3_hasClause l D cA g g_sides g_grips g_wits g_says g_gives0 g_gives1 g_froms g_tos p0) (tb_V tw_719 tw_720 tw_721 tw_104 tw_722) hdX3_hasClause ⟨rfl, rfl, Nat.le_of_ble_eq_true rfl, Nat.le_of_ble_eq_true rfl⟩ ⟨Nat.le_of_ble_eq_true rfl, Nat.le_of_ble_eq_true rfl⟩ rfl rfl rfl hl.1 rfl (Nat.le_of_ble_eq_true rfl) dX11_rests_5 (fun r_1 hr_1 => ?_)
  obtain rfl : r_1 = 0 := hr_1
  refine lv_if_eq (tgt := 21) hx hb dX11_rests_8 (by decide) (fun c_2 => ?_) (fun c_2 => absurd (by decide) c_2)
  refine lv_bipush (v := (-2)) hx hb dX11_rests_21 (by decide) ?_
  exact W.iret (v := (-2)) hx hb hr (fun t ht hW => ⟨(-2), rfl, rfl, ht⟩) (fun _ h => by cases h) dX11_rests_23
set_option maxHeartbeats 4000000 in
set_option maxRecDepth 100000 in
theorem k_X11_stands (l : Launch) (D : va_G) (cA : Nat → ClassId) (h0 : Nat) (tp : Nat) (rd : Nat) (g : Nat) (ev : Nat) (im : Nat) (sl : Nat) (co : Nat) (pa : Nat) (sp : Nat) (ba : Nat) (we : Nat) (g_sides : Nat) (g_grips : Nat) (g_wits : Nat) (g_says : Nat) (g_gives0 : Nat) (g_gives1 : Nat) (g_froms : Nat) (g_tos : Nat) : Met l yX11_stands (Cond.code yX11_stands cX11_stands 3 (some .int) :: TB) (rmd 1 0 0) (PP D cA [(h0, .inr (11, [.ref tp, .ref rd, .ref g, .ref ev, .ref im, .ref sl, .ref co, .ref pa, .ref sp, .ref ba, .ref we])), (g, .inr (3, [.int 0, .int 0, .int 0, .int 0, .int 0, .int 0, .int 0, .int 0, .ref g_sides, .ref g_grips, .ref g_wits, .ref g_says, .ref g_gives0, .ref g_gives1, .ref g_froms, .ref g_tos]))] [.ref h0]) (vp_Si (fun r => r = (-2))) 0 0 (fun _ => False) := by
  refine Met.ofW (cc := cX11_stands) (maxL := 3) (ret := (some .int)) (by decide) rfl ?_
  intro p e s m args below meth c s₁ B hml hv
  obtain ⟨rfl, hP, hKN⟩ := hv
  have hx := B.exec
  have hb := B.bytes
  have hr := B.returns
  have hts : ∀ w ∈ TB, w.before _ s = true := fun w h => atoms_spec B.pre w (List.mem_cons_of_mem _ h)
  have hown : s.vm.findClass RX11 = some m.cls := findClass_of_methodNamed B.named
  have hlocks := B.notSynchronized
  have hl := lv_entry ([.ref h0]) (n := 3) (Nat.le_of_ble_eq_true rfl)
  rw [lg_entry_eq]
  generalize (lg_sl ([.ref h0]) ++ List.replicate (3 - (lg_sl ([.ref h0])).length) Slot.unset).toArray = ls at hl ⊢
  have hl : lv_has ls 3 [(0, .ref h0)] := hl
  refine lv_aload_n hx hb dX11_stands_0 rfl (lv_at hl 0 rfl) ?_
  refine va_get (D := D) (ci := 11) (v := .ref g) (C := RX11) (T := TX11) (N := 11) hx hb hts inX11 hown hKN.1 hP 0 rfl rfl 2 (by decide) (hts _ tw_467) (fun _ h9 => h9) rfl dX11_stands_1 ?_
  refine cpVi (rest := []) ⟨hx, hb, hml, hown, hts⟩ hKN (hP.sub (ws' := [(g, .inr (3, [.int 0, .int 0, .int 0, .int 0, .int 0, .int 0, .int 0, .int 0, .ref g_sides, .ref g_grips, .ref g_wits, .ref g_says, .ref g_gives0, .ref g_gives1, .ref g_froms, .ref g_tos]))]) [1] rfl) (k_X3_exists l D cA g g_sides g_grips g_wits g_says g_gives0 g_gives1 g_froms g_tos) (tb_V tw_768 tw_741 tw_742 tw_104 tw_743) hdX3_exists ⟨rfl, rfl, Nat.le_of_ble_eq_true rfl, Nat.le_of_ble_eq_true rfl⟩ ⟨Nat.le_of_ble_eq_true rfl, Nat.le_of_ble_eq_true rfl⟩ rfl rfl rfl hl.1 rfl (Nat.le_of_ble_eq_true rfl) dX11_stands_4 (fun r_1 hr_1 => ?_)
  obtain rfl : r_1 = 0 := hr_1
  refine lv_if_ne (tgt := 13) hx hb dX11_stands_7 (by decide) (fun c_2 => absurd (by decide) c_2) (fun c_2 => ?_)
  refine lv_bipush (v := (-2)) hx hb dX11_stands_10 (by decide) ?_
  exact W.iret (v := (-2)) hx hb hr (fun t ht hW => ⟨(-2), rfl, rfl, ht⟩) (fun _ h => by cases h) dX11_stands_12
set_option maxHeartbeats 4000000 in
set_option maxRecDepth 100000 in
theorem k_X11_fits (l : Launch) (D : va_G) (cA : Nat → ClassId) (h0 : Nat) (tp : Nat) (rd : Nat) (g : Nat) (ev : Nat) (im : Nat) (sl : Nat) (co : Nat) (pa : Nat) (sp : Nat) (ba : Nat) (we : Nat) (g_sides : Nat) (g_grips : Nat) (g_wits : Nat) (g_says : Nat) (g_gives0 : Nat) (g_gives1 : Nat) (g_froms : Nat) (g_tos : Nat) (p0 : Int32) : Met l yX11_fits (Cond.code yX11_fits cX11_fits 3 (some .int) :: TB) (rmd 2 0 0) (PP D cA [(h0, .inr (11, [.ref tp, .ref rd, .ref g, .ref ev, .ref im, .ref sl, .ref co, .ref pa, .ref sp, .ref ba, .ref we])), (g, .inr (3, [.int 0, .int 0, .int 0, .int 0, .int 0, .int 0, .int 0, .int 0, .ref g_sides, .ref g_grips, .ref g_wits, .ref g_says, .ref g_gives0, .ref g_gives1, .ref g_froms, .ref g_tos]))] [.ref h0, .int p0]) (vp_Si (fun r => r = (-2))) 0 0 (fun _ => False) := by
  refine Met.ofW (cc := cX11_fits) (maxL := 3) (ret := (some .int)) (by decide) rfl ?_
  intro p e s m args below meth c s₁ B hml hv
  obtain ⟨rfl, hP, hKN⟩ := hv
  have hx := B.exec
  have hb := B.bytes
  have hr := B.returns
  have hts : ∀ w ∈ TB, w.before _ s = true := fun w h => atoms_spec B.pre w (List.mem_cons_of_mem _ h)
  have hown : s.vm.findClass RX11 = some m.cls := findClass_of_methodNamed B.named
  have hlocks := B.notSynchronized
  have hl := lv_entry ([.ref h0, .int p0]) (n := 3) (Nat.le_of_ble_eq_true rfl)
  rw [lg_entry_eq]
  generalize (lg_sl ([.ref h0, .int p0]) ++ List.replicate (3 - (lg_sl ([.ref h0, .int p0])).length) Slot.unset).toArray = ls at hl ⊢
  have hl : lv_has ls 3 [(0, .ref h0), (1, .int p0)] := hl
  refine lv_aload_n hx hb dX11_fits_0 rfl (lv_at hl 0 rfl) ?_
  refine lv_iload_n hx hb dX11_fits_1 rfl (lv_at hl 1 rfl) ?_
  refine cpVi (rest := []) ⟨hx, hb, hml, hown, hts⟩ hKN (hP.sub (ws' := [(h0, .inr (11, [.ref tp, .ref rd, .ref g, .ref ev, .ref im, .ref sl, .ref co, .ref pa, .ref sp, .ref ba, .ref we])), (g, .inr (3, [.int 0, .int 0, .int 0, .int 0, .int 0, .int 0, .int 0, .int 0, .ref g_sides, .ref g_grips, .ref g_wits, .ref g_says, .ref g_gives0, .ref g_gives1, .ref g_froms, .ref g_tos]))]) [0, 1] rfl) (k_X11_toldRefusal l D cA h0 tp rd g ev im sl co pa sp ba we g_sides g_grips g_wits g_says g_gives0 g_gives1 g_froms g_tos p0) (tb_V tw_1179 tw_1181 tw_26 tw_101 tw_1182) hdX11_toldRefusal ⟨rfl, rfl, Nat.le_of_ble_eq_true rfl, Nat.le_of_ble_eq_true rfl⟩ ⟨Nat.le_of_ble_eq_true rfl, Nat.le_of_ble_eq_true rfl⟩ rfl rfl rfl hl.1 rfl (Nat.le_of_ble_eq_true rfl) dX11_fits_2 (fun r_1 hr_1 => ?_)
  obtain rfl : r_1 = (-2) := hr_1
  refine lv_istore_n (lv' := [(2, .int (-2)), (0, .ref h0), (1, .int p0)]) hx hb dX11_fits_5 rfl hl (by decide) rfl (fun ls hl => ?_)
  refine lv_iload_n hx hb dX11_fits_6 rfl (lv_at hl 0 rfl) ?_
  refine lv_if_eq (tgt := 12) hx hb dX11_fits_7 (by decide) (fun c_2 => absurd c_2 (by decide)) (fun c_2 => ?_)
  refine lv_iload_n hx hb dX11_fits_10 rfl (lv_at hl 0 rfl) ?_
  exact W.iret (v := (-2)) hx hb hr (fun t ht hW => ⟨(-2), rfl, rfl, ht⟩) (fun _ h => by cases h) dX11_fits_11
set_option maxHeartbeats 4000000 in
set_option maxRecDepth 100000 in
theorem k_X11_tired (l : Launch) (D : va_G) (cA : Nat → ClassId) (h0 : Nat) (tp : Nat) (rd : Nat) (g : Nat) (ev : Nat) (im : Nat) (sl : Nat) (co : Nat) (pa : Nat) (sp : Nat) (ba : Nat) (we : Nat) (g_sides : Nat) (g_grips : Nat) (g_wits : Nat) (g_says : Nat) (g_gives0 : Nat) (g_gives1 : Nat) (g_froms : Nat) (g_tos : Nat) (p0 : Int32) : Met l yX11_tired (Cond.code yX11_tired cX11_tired 5 (some .int) :: TB) (rmd 2 0 0) (PP D cA [(h0, .inr (11, [.ref tp, .ref rd, .ref g, .ref ev, .ref im, .ref sl, .ref co, .ref pa, .ref sp, .ref ba, .ref we])), (g, .inr (3, [.int 0, .int 0, .int 0, .int 0, .int 0, .int 0, .int 0, .int 0, .ref g_sides, .ref g_grips, .ref g_wits, .ref g_says, .ref g_gives0, .ref g_gives1, .ref g_froms, .ref g_tos]))] [.ref h0, .int p0]) (vp_Si (fun r => r = (-2))) 0 0 (fun _ => False) := by
  refine Met.ofW (cc := cX11_tired) (maxL := 5) (ret := (some .int)) (by decide) rfl ?_
  intro p e s m args below meth c s₁ B hml hv
  obtain ⟨rfl, hP, hKN⟩ := hv
  have hx := B.exec
  have hb := B.bytes
  have hr := B.returns
  have hts : ∀ w ∈ TB, w.before _ s = true := fun w h => atoms_spec B.pre w (List.mem_cons_of_mem _ h)
  have hown : s.vm.findClass RX11 = some m.cls := findClass_of_methodNamed B.named
  have hlocks := B.notSynchronized
  have hl := lv_entry ([.ref h0, .int p0]) (n := 5) (Nat.le_of_ble_eq_true rfl)
  rw [lg_entry_eq]
  generalize (lg_sl ([.ref h0, .int p0]) ++ List.replicate (5 - (lg_sl ([.ref h0, .int p0])).length) Slot.unset).toArray = ls at hl ⊢
  have hl : lv_has ls 5 [(0, .ref h0), (1, .int p0)] := hl
  refine lv_aload_n hx hb dX11_tired_0 rfl (lv_at hl 0 rfl) ?_
  refine lv_iload_n hx hb dX11_tired_1 rfl (lv_at hl 1 rfl) ?_
  refine cpVi (rest := []) ⟨hx, hb, hml, hown, hts⟩ hKN (hP.sub (ws' := [(h0, .inr (11, [.ref tp, .ref rd, .ref g, .ref ev, .ref im, .ref sl, .ref co, .ref pa, .ref sp, .ref ba, .ref we])), (g, .inr (3, [.int 0, .int 0, .int 0, .int 0, .int 0, .int 0, .int 0, .int 0, .ref g_sides, .ref g_grips, .ref g_wits, .ref g_says, .ref g_gives0, .ref g_gives1, .ref g_froms, .ref g_tos]))]) [0, 1] rfl) (k_X11_toldRefusal l D cA h0 tp rd g ev im sl co pa sp ba we g_sides g_grips g_wits g_says g_gives0 g_gives1 g_froms g_tos p0) (tb_V tw_1179 tw_1181 tw_26 tw_101 tw_1182) hdX11_toldRefusal ⟨rfl, rfl, Nat.le_of_ble_eq_true rfl, Nat.le_of_ble_eq_true rfl⟩ ⟨Nat.le_of_ble_eq_true rfl, Nat.le_of_ble_eq_true rfl⟩ rfl rfl rfl hl.1 rfl (Nat.le_of_ble_eq_true rfl) dX11_tired_2 (fun r_1 hr_1 => ?_)
  obtain rfl : r_1 = (-2) := hr_1
  refine lv_istore_n (lv' := [(2, .int (-2)), (0, .ref h0), (1, .int p0)]) hx hb dX11_tired_5 rfl hl (by decide) rfl (fun ls hl => ?_)
  refine lv_iload_n hx hb dX11_tired_6 rfl (lv_at hl 0 rfl) ?_
  refine lv_if_eq (tgt := 12) hx hb dX11_tired_7 (by decide) (fun c_2 => absurd c_2 (by decide)) (fun c_2 => ?_)
  refine lv_iload_n hx hb dX11_tired_10 rfl (lv_at hl 0 rfl) ?_
  exact W.iret (v := (-2)) hx hb hr (fun t ht hW => ⟨(-2), rfl, rfl, ht⟩) (fun _ h => by cases h) dX11_tired_11
set_option maxHeartbeats 4000000 in
set_option maxRecDepth 100000 in
theorem k_X11_by (l : Launch) (D : va_G) (cA : Nat → ClassId) (h0 : Nat) (tp : Nat) (rd : Nat) (g : Nat) (ev : Nat) (im : Nat) (sl : Nat) (co : Nat) (pa : Nat) (sp : Nat) (ba : Nat) (we : Nat) (g_sides : Nat) (g_grips : Nat) (g_wits : Nat) (g_says : Nat) (g_gives0 : Nat) (g_gives1 : Nat) (g_froms : Nat) (g_tos : Nat) (p0 : Int32) (p1 : Int32) : Met l yX11_by (Cond.code yX11_by cX11_by 4 (some .int) :: TB) (rmd 1 0 0) (PP D cA [(h0, .inr (11, [.ref tp, .ref rd, .ref g, .ref ev, .ref im, .ref sl, .ref co, .ref pa, .ref sp, .ref ba, .ref we])), (g, .inr (3, [.int 0, .int 0, .int 0, .int 0, .int 0, .int 0, .int 0, .int 0, .ref g_sides, .ref g_grips, .ref g_wits, .ref g_says, .ref g_gives0, .ref g_gives1, .ref g_froms, .ref g_tos]))] [.ref h0, .int p0, .int p1]) (vp_Si (fun r => r = (-2))) 0 0 (fun _ => False) := by
  refine Met.ofW (cc := cX11_by) (maxL := 4) (ret := (some .int)) (by decide) rfl ?_
  intro p e s m args below meth c s₁ B hml hv
  obtain ⟨rfl, hP, hKN⟩ := hv
  have hx := B.exec
  have hb := B.bytes
  have hr := B.returns
  have hts : ∀ w ∈ TB, w.before _ s = true := fun w h => atoms_spec B.pre w (List.mem_cons_of_mem _ h)
  have hown : s.vm.findClass RX11 = some m.cls := findClass_of_methodNamed B.named
  have hlocks := B.notSynchronized
  have hl := lv_entry ([.ref h0, .int p0, .int p1]) (n := 4) (Nat.le_of_ble_eq_true rfl)
  rw [lg_entry_eq]
  generalize (lg_sl ([.ref h0, .int p0, .int p1]) ++ List.replicate (4 - (lg_sl ([.ref h0, .int p0, .int p1])).length) Slot.unset).toArray = ls at hl ⊢
  have hl : lv_has ls 4 [(0, .ref h0), (1, .int p0), (2, .int p1)] := hl
  refine lv_aload_n hx hb dX11_by_0 rfl (lv_at hl 0 rfl) ?_
  refine va_get (D := D) (ci := 11) (v := .ref g) (C := RX11) (T := TX11) (N := 11) hx hb hts inX11 hown hKN.1 hP 0 rfl rfl 2 (by decide) (hts _ tw_467) (fun _ h9 => h9) rfl dX11_by_1 ?_
  refine lv_iload_n hx hb dX11_by_4 rfl (lv_at hl 2 rfl) ?_
  refine cpVi (rest := []) ⟨hx, hb, hml, hown, hts⟩ hKN (hP.sub (ws' := [(g, .inr (3, [.int 0, .int 0, .int 0, .int 0, .int 0, .int 0, .int 0, .int 0, .ref g_sides, .ref g_grips, .ref g_wits, .ref g_says, .ref g_gives0, .ref g_gives1, .ref g_froms, .ref g_tos]))]) [1] rfl) (k_X3_hasMan l D cA g g_sides g_grips g_wits g_says g_gives0 g_gives1 g_froms g_tos p1) (tb_V tw_698 tw_699 tw_700 tw_104 tw_701) hdX3_hasMan ⟨rfl, rfl, Nat.le_of_ble_eq_true rfl, Nat.le_of_ble_eq_true rfl⟩ ⟨Nat.le_of_ble_eq_true rfl, Nat.le_of_ble_eq_true rfl⟩ rfl rfl rfl hl.1 rfl (Nat.le_of_ble_eq_true rfl) dX11_by_5 (fun r_1 hr_1 => ?_)
  obtain rfl : r_1 = 0 := hr_1
  refine lv_if_eq (tgt := 19) hx hb dX11_by_8 (by decide) (fun c_2 => ?_) (fun c_2 => absurd (by decide) c_2)
  refine lv_bipush (v := (-2)) hx hb dX11_by_19 (by decide) ?_
  refine lv_istore_n (lv' := [(3, .int (-2)), (0, .ref h0), (1, .int p0), (2, .int p1)]) hx hb dX11_by_21 rfl hl (by decide) rfl (fun ls hl => ?_)
  refine lv_iload_n hx hb dX11_by_22 rfl (lv_at hl 0 rfl) ?_
  refine lv_if_eq (tgt := 28) hx hb dX11_by_23 (by decide) (fun c_3 => absurd c_3 (by decide)) (fun c_3 => ?_)
  refine lv_iload_n hx hb dX11_by_26 rfl (lv_at hl 0 rfl) ?_
  exact W.iret (v := (-2)) hx hb hr (fun t ht hW => ⟨(-2), rfl, rfl, ht⟩) (fun _ h => by cases h) dX11_by_27
set_option maxHeartbeats 4000000 in
set_option maxRecDepth 100000 in
theorem k_X11_ask (l : Launch) (D : va_G) (cA : Nat → ClassId) (h0 : Nat) (tp : Nat) (rd : Nat) (g : Nat) (ev : Nat) (im : Nat) (sl : Nat) (co : Nat) (pa : Nat) (sp : Nat) (ba : Nat) (we : Nat) (g_sides : Nat) (g_grips : Nat) (g_wits : Nat) (g_says : Nat) (g_gives0 : Nat) (g_gives1 : Nat) (g_froms : Nat) (g_tos : Nat) (p0 : Int32) : Met l yX11_ask (Cond.code yX11_ask cX11_ask 3 (some .int) :: TB) (rmd 2 0 0) (PP D cA [(h0, .inr (11, [.ref tp, .ref rd, .ref g, .ref ev, .ref im, .ref sl, .ref co, .ref pa, .ref sp, .ref ba, .ref we])), (g, .inr (3, [.int 0, .int 0, .int 0, .int 0, .int 0, .int 0, .int 0, .int 0, .ref g_sides, .ref g_grips, .ref g_wits, .ref g_says, .ref g_gives0, .ref g_gives1, .ref g_froms, .ref g_tos]))] [.ref h0, .int p0]) (vp_Si (fun r => r = (-2))) 0 0 (fun _ => False) := by
  refine Met.ofW (cc := cX11_ask) (maxL := 3) (ret := (some .int)) (by decide) rfl ?_
  intro p e s m args below meth c s₁ B hml hv
  obtain ⟨rfl, hP, hKN⟩ := hv
  have hx := B.exec
  have hb := B.bytes
  have hr := B.returns
  have hts : ∀ w ∈ TB, w.before _ s = true := fun w h => atoms_spec B.pre w (List.mem_cons_of_mem _ h)
  have hown : s.vm.findClass RX11 = some m.cls := findClass_of_methodNamed B.named
  have hlocks := B.notSynchronized
  have hl := lv_entry ([.ref h0, .int p0]) (n := 3) (Nat.le_of_ble_eq_true rfl)
  rw [lg_entry_eq]
  generalize (lg_sl ([.ref h0, .int p0]) ++ List.replicate (3 - (lg_sl ([.ref h0, .int p0])).length) Slot.unset).toArray = ls at hl ⊢
  have hl : lv_has ls 3 [(0, .ref h0), (1, .int p0)] := hl
  refine lv_aload_n hx hb dX11_ask_0 rfl (lv_at hl 0 rfl) ?_
  refine lv_iload_n hx hb dX11_ask_1 rfl (lv_at hl 1 rfl) ?_
  refine cpVi (rest := []) ⟨hx, hb, hml, hown, hts⟩ hKN (hP.sub (ws' := [(h0, .inr (11, [.ref tp, .ref rd, .ref g, .ref ev, .ref im, .ref sl, .ref co, .ref pa, .ref sp, .ref ba, .ref we])), (g, .inr (3, [.int 0, .int 0, .int 0, .int 0, .int 0, .int 0, .int 0, .int 0, .ref g_sides, .ref g_grips, .ref g_wits, .ref g_says, .ref g_gives0, .ref g_gives1, .ref g_froms, .ref g_tos]))]) [0, 1] rfl) (k_X11_toldRefusal l D cA h0 tp rd g ev im sl co pa sp ba we g_sides g_grips g_wits g_says g_gives0 g_gives1 g_froms g_tos p0) (tb_V tw_1179 tw_1181 tw_26 tw_101 tw_1182) hdX11_toldRefusal ⟨rfl, rfl, Nat.le_of_ble_eq_true rfl, Nat.le_of_ble_eq_true rfl⟩ ⟨Nat.le_of_ble_eq_true rfl, Nat.le_of_ble_eq_true rfl⟩ rfl rfl rfl hl.1 rfl (Nat.le_of_ble_eq_true rfl) dX11_ask_2 (fun r_1 hr_1 => ?_)
  obtain rfl : r_1 = (-2) := hr_1
  refine lv_istore_n (lv' := [(2, .int (-2)), (0, .ref h0), (1, .int p0)]) hx hb dX11_ask_5 rfl hl (by decide) rfl (fun ls hl => ?_)
  refine lv_iload_n hx hb dX11_ask_6 rfl (lv_at hl 0 rfl) ?_
  refine lv_if_eq (tgt := 12) hx hb dX11_ask_7 (by decide) (fun c_2 => absurd c_2 (by decide)) (fun c_2 => ?_)
  refine lv_iload_n hx hb dX11_ask_10 rfl (lv_at hl 0 rfl) ?_
  exact W.iret (v := (-2)) hx hb hr (fun t ht hW => ⟨(-2), rfl, rfl, ht⟩) (fun _ h => by cases h) dX11_ask_11
set_option maxHeartbeats 4000000 in
set_option maxRecDepth 100000 in
theorem k_X11_sure (l : Launch) (D : va_G) (cA : Nat → ClassId) (h0 : Nat) (tp : Nat) (rd : Nat) (g : Nat) (ev : Nat) (im : Nat) (sl : Nat) (co : Nat) (pa : Nat) (sp : Nat) (ba : Nat) (we : Nat) (g_sides : Nat) (g_grips : Nat) (g_wits : Nat) (g_says : Nat) (g_gives0 : Nat) (g_gives1 : Nat) (g_froms : Nat) (g_tos : Nat) (p0 : Int32) (p1 : Int32) (p2 : Int32) : Met l yX11_sure (Cond.code yX11_sure cX11_sure 7 (some .int) :: TB) (rmd 2 0 0) (PP D cA [(h0, .inr (11, [.ref tp, .ref rd, .ref g, .ref ev, .ref im, .ref sl, .ref co, .ref pa, .ref sp, .ref ba, .ref we])), (g, .inr (3, [.int 0, .int 0, .int 0, .int 0, .int 0, .int 0, .int 0, .int 0, .ref g_sides, .ref g_grips, .ref g_wits, .ref g_says, .ref g_gives0, .ref g_gives1, .ref g_froms, .ref g_tos]))] [.ref h0, .int p0, .int p1, .int p2]) (vp_Si (fun r => r = (-2))) 0 0 (fun _ => False) := by
  refine Met.ofW (cc := cX11_sure) (maxL := 7) (ret := (some .int)) (by decide) rfl ?_
  intro p e s m args below meth c s₁ B hml hv
  obtain ⟨rfl, hP, hKN⟩ := hv
  have hx := B.exec
  have hb := B.bytes
  have hr := B.returns
  have hts : ∀ w ∈ TB, w.before _ s = true := fun w h => atoms_spec B.pre w (List.mem_cons_of_mem _ h)
  have hown : s.vm.findClass RX11 = some m.cls := findClass_of_methodNamed B.named
  have hlocks := B.notSynchronized
  have hl := lv_entry ([.ref h0, .int p0, .int p1, .int p2]) (n := 7) (Nat.le_of_ble_eq_true rfl)
  rw [lg_entry_eq]
  generalize (lg_sl ([.ref h0, .int p0, .int p1, .int p2]) ++ List.replicate (7 - (lg_sl ([.ref h0, .int p0, .int p1, .int p2])).length) Slot.unset).toArray = ls at hl ⊢
  have hl : lv_has ls 7 [(0, .ref h0), (1, .int p0), (2, .int p1), (3, .int p2)] := hl
  refine lv_iload_n hx hb dX11_sure_0 rfl (lv_at hl 3 rfl) ?_
  refine lv_iconst (v := 0) hx hb dX11_sure_1 (by decide) ?_
  refine lv_bipush (v := 100) hx hb dX11_sure_2 (by decide) ?_
  refine cpSi (rest := []) ⟨hx, hb, hml, hown, hts⟩ hKN (hP.sub (ws' := []) [] rfl) (k_X11_isWithin l D cA p2 0 100) (tb_S tw_515 tw_516 tw_101 tw_517) hdX11_isWithin ⟨rfl, rfl, Nat.le_of_ble_eq_true rfl, Nat.le_of_ble_eq_true rfl⟩ ⟨Nat.le_of_ble_eq_true rfl, Nat.le_of_ble_eq_true rfl⟩ rfl hl.1 rfl (Nat.le_of_ble_eq_true rfl) dX11_sure_4 (fun r_1 hr_1 => ?_)
  rcases hr_1 with ⟨k_1_0, rfl⟩ | ⟨k_1_1, rfl⟩
  · skip
    refine lv_if_ne (tgt := 13) hx hb dX11_sure_7 (by decide) (fun c_2 => ?_) (fun c_2 => absurd c_2 (by decide))
    refine lv_aload_n hx hb dX11_sure_13 rfl (lv_at hl 0 rfl) ?_
    refine va_get (D := D) (ci := 11) (v := .ref g) (C := RX11) (T := TX11) (N := 11) hx hb hts inX11 hown hKN.1 hP 0 rfl rfl 2 (by decide) (hts _ tw_467) (fun _ h9 => h9) rfl dX11_sure_14 ?_
    refine lv_iload_n hx hb dX11_sure_17 rfl (lv_at hl 1 rfl) ?_
    refine lv_iload_n hx hb dX11_sure_18 rfl (lv_at hl 2 rfl) ?_
    refine cpVi (rest := []) ⟨hx, hb, hml, hown, hts⟩ hKN (hP.sub (ws' := [(g, .inr (3, [.int 0, .int 0, .int 0, .int 0, .int 0, .int 0, .int 0, .int 0, .ref g_sides, .ref g_grips, .ref g_wits, .ref g_says, .ref g_gives0, .ref g_gives1, .ref g_froms, .ref g_tos]))]) [1] rfl) (k_X3_holdOrRefusal l D cA g g_sides g_grips g_wits g_says g_gives0 g_gives1 g_froms g_tos p0 p1) (tb_V tw_843 tw_844 tw_845 tw_104 tw_846) hdX3_holdOrRefusal ⟨rfl, rfl, Nat.le_of_ble_eq_true rfl, Nat.le_of_ble_eq_true rfl⟩ ⟨Nat.le_of_ble_eq_true rfl, Nat.le_of_ble_eq_true rfl⟩ rfl rfl rfl hl.1 rfl (Nat.le_of_ble_eq_true rfl) dX11_sure_19 (fun r_3 hr_3 => ?_)
    obtain rfl : r_3 = (-2) := hr_3
    refine lv_istore (lv' := [(4, .int (-2)), (0, .ref h0), (1, .int p0), (2, .int p1), (3, .int p2)]) hx hb dX11_sure_22 hl (by decide) rfl (fun ls hl => ?_)
    refine lv_iload hx hb dX11_sure_24 (lv_at hl 0 rfl) ?_
    refine lv_if_ge (tgt := 32) hx hb dX11_sure_26 (by decide) (fun c_4 => absurd c_4 (by decide)) (fun c_4 => ?_)
    refine lv_iload hx hb dX11_sure_29 (lv_at hl 0 rfl) ?_
    exact W.iret (v := (-2)) hx hb hr (fun t ht hW => ⟨(-2), rfl, rfl, ht⟩) (fun _ h => by cases h) dX11_sure_31
  · skip
    refine lv_if_ne (tgt := 13) hx hb dX11_sure_7 (by decide) (fun c_5 => absurd (by decide) c_5) (fun c_5 => ?_)
    refine lv_bipush (v := (-2)) hx hb dX11_sure_10 (by decide) ?_
    exact W.iret (v := (-2)) hx hb hr (fun t ht hW => ⟨(-2), rfl, rfl, ht⟩) (fun _ h => by cases h) dX11_sure_12
set_option maxHeartbeats 4000000 in
set_option maxRecDepth 100000 in
theorem k_X11_push (l : Launch) (D : va_G) (cA : Nat → ClassId) (h0 : Nat) (tp : Nat) (rd : Nat) (g : Nat) (ev : Nat) (im : Nat) (sl : Nat) (co : Nat) (pa : Nat) (sp : Nat) (ba : Nat) (we : Nat) (g_sides : Nat) (g_grips : Nat) (g_wits : Nat) (g_says : Nat) (g_gives0 : Nat) (g_gives1 : Nat) (g_froms : Nat) (g_tos : Nat) (p0 : Int32) (p1 : Int32) : Met l yX11_push (Cond.code yX11_push cX11_push 3 (some .int) :: TB) (rmd 2 0 0) (PP D cA [(h0, .inr (11, [.ref tp, .ref rd, .ref g, .ref ev, .ref im, .ref sl, .ref co, .ref pa, .ref sp, .ref ba, .ref we])), (g, .inr (3, [.int 0, .int 0, .int 0, .int 0, .int 0, .int 0, .int 0, .int 0, .ref g_sides, .ref g_grips, .ref g_wits, .ref g_says, .ref g_gives0, .ref g_gives1, .ref g_froms, .ref g_tos]))] [.ref h0, .int p0, .int p1]) (vp_Si (fun r => r = (-2))) 0 0 (fun _ => False) := by
  refine Met.ofW (cc := cX11_push) (maxL := 3) (ret := (some .int)) (by decide) rfl ?_
  intro p e s m args below meth c s₁ B hml hv
  obtain ⟨rfl, hP, hKN⟩ := hv
  have hx := B.exec
  have hb := B.bytes
  have hr := B.returns
  have hts : ∀ w ∈ TB, w.before _ s = true := fun w h => atoms_spec B.pre w (List.mem_cons_of_mem _ h)
  have hown : s.vm.findClass RX11 = some m.cls := findClass_of_methodNamed B.named
  have hlocks := B.notSynchronized
  have hl := lv_entry ([.ref h0, .int p0, .int p1]) (n := 3) (Nat.le_of_ble_eq_true rfl)
  rw [lg_entry_eq]
  generalize (lg_sl ([.ref h0, .int p0, .int p1]) ++ List.replicate (3 - (lg_sl ([.ref h0, .int p0, .int p1])).length) Slot.unset).toArray = ls at hl ⊢
  have hl : lv_has ls 3 [(0, .ref h0), (1, .int p0), (2, .int p1)] := hl
  refine lv_aload_n hx hb dX11_push_0 rfl (lv_at hl 0 rfl) ?_
  refine va_get (D := D) (ci := 11) (v := .ref g) (C := RX11) (T := TX11) (N := 11) hx hb hts inX11 hown hKN.1 hP 0 rfl rfl 2 (by decide) (hts _ tw_467) (fun _ h9 => h9) rfl dX11_push_1 ?_
  refine lv_iload_n hx hb dX11_push_4 rfl (lv_at hl 1 rfl) ?_
  refine cpVi (rest := []) ⟨hx, hb, hml, hown, hts⟩ hKN (hP.sub (ws' := [(g, .inr (3, [.int 0, .int 0, .int 0, .int 0, .int 0, .int 0, .int 0, .int 0, .ref g_sides, .ref g_grips, .ref g_wits, .ref g_says, .ref g_gives0, .ref g_gives1, .ref g_froms, .ref g_tos]))]) [1] rfl) (k_X3_hasSide l D cA g g_sides g_grips g_wits g_says g_gives0 g_gives1 g_froms g_tos p0) (tb_V tw_736 tw_737 tw_738 tw_104 tw_739) hdX3_hasSide ⟨rfl, rfl, Nat.le_of_ble_eq_true rfl, Nat.le_of_ble_eq_true rfl⟩ ⟨Nat.le_of_ble_eq_true rfl, Nat.le_of_ble_eq_true rfl⟩ rfl rfl rfl hl.1 rfl (Nat.le_of_ble_eq_true rfl) dX11_push_5 (fun r_1 hr_1 => ?_)
  obtain rfl : r_1 = 0 := hr_1
  refine lv_if_eq (tgt := 21) hx hb dX11_push_8 (by decide) (fun c_2 => ?_) (fun c_2 => absurd (by decide) c_2)
  refine lv_bipush (v := (-2)) hx hb dX11_push_21 (by decide) ?_
  exact W.iret (v := (-2)) hx hb hr (fun t ht hW => ⟨(-2), rfl, rfl, ht⟩) (fun _ h => by cases h) dX11_push_23
set_option maxHeartbeats 4000000 in
set_option maxRecDepth 100000 in
theorem k_X11_swing (l : Launch) (D : va_G) (cA : Nat → ClassId) (h0 : Nat) (tp : Nat) (rd : Nat) (g : Nat) (ev : Nat) (im : Nat) (sl : Nat) (co : Nat) (pa : Nat) (sp : Nat) (ba : Nat) (we : Nat) (g_sides : Nat) (g_grips : Nat) (g_wits : Nat) (g_says : Nat) (g_gives0 : Nat) (g_gives1 : Nat) (g_froms : Nat) (g_tos : Nat) (p0 : Int32) (p1 : Int32) : Met l yX11_swing (Cond.code yX11_swing cX11_swing 5 (some .int) :: TB) (rmd 2 0 0) (PP D cA [(h0, .inr (11, [.ref tp, .ref rd, .ref g, .ref ev, .ref im, .ref sl, .ref co, .ref pa, .ref sp, .ref ba, .ref we])), (g, .inr (3, [.int 0, .int 0, .int 0, .int 0, .int 0, .int 0, .int 0, .int 0, .ref g_sides, .ref g_grips, .ref g_wits, .ref g_says, .ref g_gives0, .ref g_gives1, .ref g_froms, .ref g_tos]))] [.ref h0, .int p0, .int p1]) (vp_Si (fun r => r = (-2))) 0 0 (fun _ => False) := by
  refine Met.ofW (cc := cX11_swing) (maxL := 5) (ret := (some .int)) (by decide) rfl ?_
  intro p e s m args below meth c s₁ B hml hv
  obtain ⟨rfl, hP, hKN⟩ := hv
  have hx := B.exec
  have hb := B.bytes
  have hr := B.returns
  have hts : ∀ w ∈ TB, w.before _ s = true := fun w h => atoms_spec B.pre w (List.mem_cons_of_mem _ h)
  have hown : s.vm.findClass RX11 = some m.cls := findClass_of_methodNamed B.named
  have hlocks := B.notSynchronized
  have hl := lv_entry ([.ref h0, .int p0, .int p1]) (n := 5) (Nat.le_of_ble_eq_true rfl)
  rw [lg_entry_eq]
  generalize (lg_sl ([.ref h0, .int p0, .int p1]) ++ List.replicate (5 - (lg_sl ([.ref h0, .int p0, .int p1])).length) Slot.unset).toArray = ls at hl ⊢
  have hl : lv_has ls 5 [(0, .ref h0), (1, .int p0), (2, .int p1)] := hl
  refine lv_aload_n hx hb dX11_swing_0 rfl (lv_at hl 0 rfl) ?_
  refine va_get (D := D) (ci := 11) (v := .ref g) (C := RX11) (T := TX11) (N := 11) hx hb hts inX11 hown hKN.1 hP 0 rfl rfl 2 (by decide) (hts _ tw_467) (fun _ h9 => h9) rfl dX11_swing_1 ?_
  refine lv_iload_n hx hb dX11_swing_4 rfl (lv_at hl 1 rfl) ?_
  refine lv_iload_n hx hb dX11_swing_5 rfl (lv_at hl 2 rfl) ?_
  refine cpVi (rest := []) ⟨hx, hb, hml, hown, hts⟩ hKN (hP.sub (ws' := [(g, .inr (3, [.int 0, .int 0, .int 0, .int 0, .int 0, .int 0, .int 0, .int 0, .ref g_sides, .ref g_grips, .ref g_wits, .ref g_says, .ref g_gives0, .ref g_gives1, .ref g_froms, .ref g_tos]))]) [1] rfl) (k_X3_holdOrRefusal l D cA g g_sides g_grips g_wits g_says g_gives0 g_gives1 g_froms g_tos p0 p1) (tb_V tw_843 tw_844 tw_845 tw_104 tw_846) hdX3_holdOrRefusal ⟨rfl, rfl, Nat.le_of_ble_eq_true rfl, Nat.le_of_ble_eq_true rfl⟩ ⟨Nat.le_of_ble_eq_true rfl, Nat.le_of_ble_eq_true rfl⟩ rfl rfl rfl hl.1 rfl (Nat.le_of_ble_eq_true rfl) dX11_swing_6 (fun r_1 hr_1 => ?_)
  obtain rfl : r_1 = (-2) := hr_1
  refine lv_istore_n (lv' := [(3, .int (-2)), (0, .ref h0), (1, .int p0), (2, .int p1)]) hx hb dX11_swing_9 rfl hl (by decide) rfl (fun ls hl => ?_)
  refine lv_iload_n hx hb dX11_swing_10 rfl (lv_at hl 0 rfl) ?_
  refine lv_if_ge (tgt := 17) hx hb dX11_swing_11 (by decide) (fun c_2 => absurd c_2 (by decide)) (fun c_2 => ?_)
  refine lv_bipush (v := (-2)) hx hb dX11_swing_14 (by decide) ?_
  exact W.iret (v := (-2)) hx hb hr (fun t ht hW => ⟨(-2), rfl, rfl, ht⟩) (fun _ h => by cases h) dX11_swing_16
set_option maxHeartbeats 4000000 in
set_option maxRecDepth 100000 in
theorem k_X11_sign (l : Launch) (D : va_G) (cA : Nat → ClassId) (h0 : Nat) (tp : Nat) (rd : Nat) (g : Nat) (ev : Nat) (im : Nat) (sl : Nat) (co : Nat) (pa : Nat) (sp : Nat) (ba : Nat) (we : Nat) (g_sides : Nat) (g_grips : Nat) (g_wits : Nat) (g_says : Nat) (g_gives0 : Nat) (g_gives1 : Nat) (g_froms : Nat) (g_tos : Nat) (p0 : Int32) : Met l yX11_sign (Cond.code yX11_sign cX11_sign 2 (some .int) :: TB) (rmd 1 0 0) (PP D cA [(h0, .inr (11, [.ref tp, .ref rd, .ref g, .ref ev, .ref im, .ref sl, .ref co, .ref pa, .ref sp, .ref ba, .ref we])), (g, .inr (3, [.int 0, .int 0, .int 0, .int 0, .int 0, .int 0, .int 0, .int 0, .ref g_sides, .ref g_grips, .ref g_wits, .ref g_says, .ref g_gives0, .ref g_gives1, .ref g_froms, .ref g_tos]))] [.ref h0, .int p0]) (vp_Si (fun r => r = (-2))) 0 0 (fun _ => False) := by
  refine Met.ofW (cc := cX11_sign) (maxL := 2) (ret := (some .int)) (by decide) rfl ?_
  intro p e s m args below meth c s₁ B hml hv
  obtain ⟨rfl, hP, hKN⟩ := hv
  have hx := B.exec
  have hb := B.bytes
  have hr := B.returns
  have hts : ∀ w ∈ TB, w.before _ s = true := fun w h => atoms_spec B.pre w (List.mem_cons_of_mem _ h)
  have hown : s.vm.findClass RX11 = some m.cls := findClass_of_methodNamed B.named
  have hlocks := B.notSynchronized
  have hl := lv_entry ([.ref h0, .int p0]) (n := 2) (Nat.le_of_ble_eq_true rfl)
  rw [lg_entry_eq]
  generalize (lg_sl ([.ref h0, .int p0]) ++ List.replicate (2 - (lg_sl ([.ref h0, .int p0])).length) Slot.unset).toArray = ls at hl ⊢
  have hl : lv_has ls 2 [(0, .ref h0), (1, .int p0)] := hl
  refine lv_aload_n hx hb dX11_sign_0 rfl (lv_at hl 0 rfl) ?_
  refine va_get (D := D) (ci := 11) (v := .ref g) (C := RX11) (T := TX11) (N := 11) hx hb hts inX11 hown hKN.1 hP 0 rfl rfl 2 (by decide) (hts _ tw_467) (fun _ h9 => h9) rfl dX11_sign_1 ?_
  refine lv_iload_n hx hb dX11_sign_4 rfl (lv_at hl 1 rfl) ?_
  refine cpVi (rest := []) ⟨hx, hb, hml, hown, hts⟩ hKN (hP.sub (ws' := [(g, .inr (3, [.int 0, .int 0, .int 0, .int 0, .int 0, .int 0, .int 0, .int 0, .ref g_sides, .ref g_grips, .ref g_wits, .ref g_says, .ref g_gives0, .ref g_gives1, .ref g_froms, .ref g_tos]))]) [1] rfl) (k_X3_hasClause l D cA g g_sides g_grips g_wits g_says g_gives0 g_gives1 g_froms g_tos p0) (tb_V tw_719 tw_720 tw_721 tw_104 tw_722) hdX3_hasClause ⟨rfl, rfl, Nat.le_of_ble_eq_true rfl, Nat.le_of_ble_eq_true rfl⟩ ⟨Nat.le_of_ble_eq_true rfl, Nat.le_of_ble_eq_true rfl⟩ rfl rfl rfl hl.1 rfl (Nat.le_of_ble_eq_true rfl) dX11_sign_5 (fun r_1 hr_1 => ?_)
  obtain rfl : r_1 = 0 := hr_1
  refine lv_if_ne (tgt := 14) hx hb dX11_sign_8 (by decide) (fun c_2 => absurd (by decide) c_2) (fun c_2 => ?_)
  refine lv_bipush (v := (-2)) hx hb dX11_sign_11 (by decide) ?_
  exact W.iret (v := (-2)) hx hb hr (fun t ht hW => ⟨(-2), rfl, rfl, ht⟩) (fun _ h => by cases h) dX11_sign_13
set_option maxHeartbeats 4000000 in
set_option maxRecDepth 100000 in
theorem k_X11_drop (l : Launch) (D : va_G) (cA : Nat → ClassId) (h0 : Nat) (tp : Nat) (rd : Nat) (g : Nat) (ev : Nat) (im : Nat) (sl : Nat) (co : Nat) (pa : Nat) (sp : Nat) (ba : Nat) (we : Nat) (g_sides : Nat) (g_grips : Nat) (g_wits : Nat) (g_says : Nat) (g_gives0 : Nat) (g_gives1 : Nat) (g_froms : Nat) (g_tos : Nat) : Met l yX11_drop (Cond.code yX11_drop cX11_drop 1 (some .int) :: TB) (rmd 1 0 0) (PP D cA [(h0, .inr (11, [.ref tp, .ref rd, .ref g, .ref ev, .ref im, .ref sl, .ref co, .ref pa, .ref sp, .ref ba, .ref we])), (g, .inr (3, [.int 0, .int 0, .int 0, .int 0, .int 0, .int 0, .int 0, .int 0, .ref g_sides, .ref g_grips, .ref g_wits, .ref g_says, .ref g_gives0, .ref g_gives1, .ref g_froms, .ref g_tos]))] [.ref h0]) (vp_Si (fun r => r = (-2))) 0 0 (fun _ => False) := by
  refine Met.ofW (cc := cX11_drop) (maxL := 1) (ret := (some .int)) (by decide) rfl ?_
  intro p e s m args below meth c s₁ B hml hv
  obtain ⟨rfl, hP, hKN⟩ := hv
  have hx := B.exec
  have hb := B.bytes
  have hr := B.returns
  have hts : ∀ w ∈ TB, w.before _ s = true := fun w h => atoms_spec B.pre w (List.mem_cons_of_mem _ h)
  have hown : s.vm.findClass RX11 = some m.cls := findClass_of_methodNamed B.named
  have hlocks := B.notSynchronized
  have hl := lv_entry ([.ref h0]) (n := 1) (Nat.le_of_ble_eq_true rfl)
  rw [lg_entry_eq]
  generalize (lg_sl ([.ref h0]) ++ List.replicate (1 - (lg_sl ([.ref h0])).length) Slot.unset).toArray = ls at hl ⊢
  have hl : lv_has ls 1 [(0, .ref h0)] := hl
  refine lv_aload_n hx hb dX11_drop_0 rfl (lv_at hl 0 rfl) ?_
  refine va_get (D := D) (ci := 11) (v := .ref g) (C := RX11) (T := TX11) (N := 11) hx hb hts inX11 hown hKN.1 hP 0 rfl rfl 2 (by decide) (hts _ tw_467) (fun _ h9 => h9) rfl dX11_drop_1 ?_
  refine cpVi (rest := []) ⟨hx, hb, hml, hown, hts⟩ hKN (hP.sub (ws' := [(g, .inr (3, [.int 0, .int 0, .int 0, .int 0, .int 0, .int 0, .int 0, .int 0, .ref g_sides, .ref g_grips, .ref g_wits, .ref g_says, .ref g_gives0, .ref g_gives1, .ref g_froms, .ref g_tos]))]) [1] rfl) (k_X3_exists l D cA g g_sides g_grips g_wits g_says g_gives0 g_gives1 g_froms g_tos) (tb_V tw_768 tw_741 tw_742 tw_104 tw_743) hdX3_exists ⟨rfl, rfl, Nat.le_of_ble_eq_true rfl, Nat.le_of_ble_eq_true rfl⟩ ⟨Nat.le_of_ble_eq_true rfl, Nat.le_of_ble_eq_true rfl⟩ rfl rfl rfl hl.1 rfl (Nat.le_of_ble_eq_true rfl) dX11_drop_4 (fun r_1 hr_1 => ?_)
  obtain rfl : r_1 = 0 := hr_1
  refine lv_if_ne (tgt := 13) hx hb dX11_drop_7 (by decide) (fun c_2 => absurd (by decide) c_2) (fun c_2 => ?_)
  refine lv_bipush (v := (-2)) hx hb dX11_drop_10 (by decide) ?_
  exact W.iret (v := (-2)) hx hb hr (fun t ht hW => ⟨(-2), rfl, rfl, ht⟩) (fun _ h => by cases h) dX11_drop_12
set_option maxHeartbeats 4000000 in
set_option maxRecDepth 100000 in
theorem k_X11_undo (l : Launch) (D : va_G) (cA : Nat → ClassId) (h0 : Nat) (tp : Nat) (rd : Nat) (g : Nat) (ev : Nat) (im : Nat) (sl : Nat) (co : Nat) (pa : Nat) (sp : Nat) (ba : Nat) (we : Nat) (g_sides : Nat) (g_grips : Nat) (g_wits : Nat) (g_says : Nat) (g_gives0 : Nat) (g_gives1 : Nat) (g_froms : Nat) (g_tos : Nat) : Met l yX11_undo (Cond.code yX11_undo cX11_undo 1 (some .int) :: TB) (rmd 1 0 0) (PP D cA [(h0, .inr (11, [.ref tp, .ref rd, .ref g, .ref ev, .ref im, .ref sl, .ref co, .ref pa, .ref sp, .ref ba, .ref we])), (g, .inr (3, [.int 0, .int 0, .int 0, .int 0, .int 0, .int 0, .int 0, .int 0, .ref g_sides, .ref g_grips, .ref g_wits, .ref g_says, .ref g_gives0, .ref g_gives1, .ref g_froms, .ref g_tos]))] [.ref h0]) (vp_Si (fun r => r = (-2))) 0 0 (fun _ => False) := by
  refine Met.ofW (cc := cX11_undo) (maxL := 1) (ret := (some .int)) (by decide) rfl ?_
  intro p e s m args below meth c s₁ B hml hv
  obtain ⟨rfl, hP, hKN⟩ := hv
  have hx := B.exec
  have hb := B.bytes
  have hr := B.returns
  have hts : ∀ w ∈ TB, w.before _ s = true := fun w h => atoms_spec B.pre w (List.mem_cons_of_mem _ h)
  have hown : s.vm.findClass RX11 = some m.cls := findClass_of_methodNamed B.named
  have hlocks := B.notSynchronized
  have hl := lv_entry ([.ref h0]) (n := 1) (Nat.le_of_ble_eq_true rfl)
  rw [lg_entry_eq]
  generalize (lg_sl ([.ref h0]) ++ List.replicate (1 - (lg_sl ([.ref h0])).length) Slot.unset).toArray = ls at hl ⊢
  have hl : lv_has ls 1 [(0, .ref h0)] := hl
  refine lv_aload_n hx hb dX11_undo_0 rfl (lv_at hl 0 rfl) ?_
  refine va_get (D := D) (ci := 11) (v := .ref g) (C := RX11) (T := TX11) (N := 11) hx hb hts inX11 hown hKN.1 hP 0 rfl rfl 2 (by decide) (hts _ tw_467) (fun _ h9 => h9) rfl dX11_undo_1 ?_
  refine cpVi (rest := []) ⟨hx, hb, hml, hown, hts⟩ hKN (hP.sub (ws' := [(g, .inr (3, [.int 0, .int 0, .int 0, .int 0, .int 0, .int 0, .int 0, .int 0, .ref g_sides, .ref g_grips, .ref g_wits, .ref g_says, .ref g_gives0, .ref g_gives1, .ref g_froms, .ref g_tos]))]) [1] rfl) (k_X3_exists l D cA g g_sides g_grips g_wits g_says g_gives0 g_gives1 g_froms g_tos) (tb_V tw_768 tw_741 tw_742 tw_104 tw_743) hdX3_exists ⟨rfl, rfl, Nat.le_of_ble_eq_true rfl, Nat.le_of_ble_eq_true rfl⟩ ⟨Nat.le_of_ble_eq_true rfl, Nat.le_of_ble_eq_true rfl⟩ rfl rfl rfl hl.1 rfl (Nat.le_of_ble_eq_true rfl) dX11_undo_4 (fun r_1 hr_1 => ?_)
  obtain rfl : r_1 = 0 := hr_1
  refine lv_if_ne (tgt := 13) hx hb dX11_undo_7 (by decide) (fun c_2 => absurd (by decide) c_2) (fun c_2 => ?_)
  refine lv_bipush (v := (-2)) hx hb dX11_undo_10 (by decide) ?_
  exact W.iret (v := (-2)) hx hb hr (fun t ht hW => ⟨(-2), rfl, rfl, ht⟩) (fun _ h => by cases h) dX11_undo_12
set_option maxHeartbeats 4000000 in
set_option maxRecDepth 100000 in
theorem k_X11_anew (l : Launch) (D : va_G) (cA : Nat → ClassId) (h0 : Nat) (tp : Nat) (rd : Nat) (g : Nat) (ev : Nat) (im : Nat) (sl : Nat) (co : Nat) (pa : Nat) (sp : Nat) (ba : Nat) (we : Nat) (g_sides : Nat) (g_grips : Nat) (g_wits : Nat) (g_says : Nat) (g_gives0 : Nat) (g_gives1 : Nat) (g_froms : Nat) (g_tos : Nat) : Met l yX11_anew (Cond.code yX11_anew cX11_anew 2 (some .int) :: TB) (rmd 1 0 0) (PP D cA [(h0, .inr (11, [.ref tp, .ref rd, .ref g, .ref ev, .ref im, .ref sl, .ref co, .ref pa, .ref sp, .ref ba, .ref we])), (g, .inr (3, [.int 0, .int 0, .int 0, .int 0, .int 0, .int 0, .int 0, .int 0, .ref g_sides, .ref g_grips, .ref g_wits, .ref g_says, .ref g_gives0, .ref g_gives1, .ref g_froms, .ref g_tos]))] [.ref h0]) (vp_Si (fun r => r = (-2))) 0 0 (fun _ => False) := by
  refine Met.ofW (cc := cX11_anew) (maxL := 2) (ret := (some .int)) (by decide) rfl ?_
  intro p e s m args below meth c s₁ B hml hv
  obtain ⟨rfl, hP, hKN⟩ := hv
  have hx := B.exec
  have hb := B.bytes
  have hr := B.returns
  have hts : ∀ w ∈ TB, w.before _ s = true := fun w h => atoms_spec B.pre w (List.mem_cons_of_mem _ h)
  have hown : s.vm.findClass RX11 = some m.cls := findClass_of_methodNamed B.named
  have hlocks := B.notSynchronized
  have hl := lv_entry ([.ref h0]) (n := 2) (Nat.le_of_ble_eq_true rfl)
  rw [lg_entry_eq]
  generalize (lg_sl ([.ref h0]) ++ List.replicate (2 - (lg_sl ([.ref h0])).length) Slot.unset).toArray = ls at hl ⊢
  have hl : lv_has ls 2 [(0, .ref h0)] := hl
  refine lv_aload_n hx hb dX11_anew_0 rfl (lv_at hl 0 rfl) ?_
  refine va_get (D := D) (ci := 11) (v := .ref g) (C := RX11) (T := TX11) (N := 11) hx hb hts inX11 hown hKN.1 hP 0 rfl rfl 2 (by decide) (hts _ tw_467) (fun _ h9 => h9) rfl dX11_anew_1 ?_
  refine cpVi (rest := []) ⟨hx, hb, hml, hown, hts⟩ hKN (hP.sub (ws' := [(g, .inr (3, [.int 0, .int 0, .int 0, .int 0, .int 0, .int 0, .int 0, .int 0, .ref g_sides, .ref g_grips, .ref g_wits, .ref g_says, .ref g_gives0, .ref g_gives1, .ref g_froms, .ref g_tos]))]) [1] rfl) (k_X3_exists l D cA g g_sides g_grips g_wits g_says g_gives0 g_gives1 g_froms g_tos) (tb_V tw_768 tw_741 tw_742 tw_104 tw_743) hdX3_exists ⟨rfl, rfl, Nat.le_of_ble_eq_true rfl, Nat.le_of_ble_eq_true rfl⟩ ⟨Nat.le_of_ble_eq_true rfl, Nat.le_of_ble_eq_true rfl⟩ rfl rfl rfl hl.1 rfl (Nat.le_of_ble_eq_true rfl) dX11_anew_4 (fun r_1 hr_1 => ?_)
  obtain rfl : r_1 = 0 := hr_1
  refine lv_if_ne (tgt := 13) hx hb dX11_anew_7 (by decide) (fun c_2 => absurd (by decide) c_2) (fun c_2 => ?_)
  refine lv_bipush (v := (-2)) hx hb dX11_anew_10 (by decide) ?_
  exact W.iret (v := (-2)) hx hb hr (fun t ht hW => ⟨(-2), rfl, rfl, ht⟩) (fun _ h => by cases h) dX11_anew_12
set_option maxHeartbeats 4000000 in
set_option maxRecDepth 100000 in
theorem k_X11_drawn (l : Launch) (D : va_G) (cA : Nat → ClassId) (h0 : Nat) (tp : Nat) (rd : Nat) (g : Nat) (ev : Nat) (im : Nat) (sl : Nat) (co : Nat) (pa : Nat) (sp : Nat) (ba : Nat) (we : Nat) (g_sides : Nat) (g_grips : Nat) (g_wits : Nat) (g_says : Nat) (g_gives0 : Nat) (g_gives1 : Nat) (g_froms : Nat) (g_tos : Nat) (p0 : Int32) (p1 : Int32) (p2 : Int32) : Met l yX11_drawn (Cond.code yX11_drawn cX11_drawn 5 (some .int) :: TB) (rmd 2 0 0) (PP D cA [(h0, .inr (11, [.ref tp, .ref rd, .ref g, .ref ev, .ref im, .ref sl, .ref co, .ref pa, .ref sp, .ref ba, .ref we])), (g, .inr (3, [.int 0, .int 0, .int 0, .int 0, .int 0, .int 0, .int 0, .int 0, .ref g_sides, .ref g_grips, .ref g_wits, .ref g_says, .ref g_gives0, .ref g_gives1, .ref g_froms, .ref g_tos]))] [.ref h0, .int p0, .int p1, .int p2]) (vp_Si (fun r => r = (-2))) 0 0 (fun _ => False) := by
  refine Met.ofW (cc := cX11_drawn) (maxL := 5) (ret := (some .int)) (by decide) rfl ?_
  intro p e s m args below meth c s₁ B hml hv
  obtain ⟨rfl, hP, hKN⟩ := hv
  have hx := B.exec
  have hb := B.bytes
  have hr := B.returns
  have hts : ∀ w ∈ TB, w.before _ s = true := fun w h => atoms_spec B.pre w (List.mem_cons_of_mem _ h)
  have hown : s.vm.findClass RX11 = some m.cls := findClass_of_methodNamed B.named
  have hlocks := B.notSynchronized
  have hl := lv_entry ([.ref h0, .int p0, .int p1, .int p2]) (n := 5) (Nat.le_of_ble_eq_true rfl)
  rw [lg_entry_eq]
  generalize (lg_sl ([.ref h0, .int p0, .int p1, .int p2]) ++ List.replicate (5 - (lg_sl ([.ref h0, .int p0, .int p1, .int p2])).length) Slot.unset).toArray = ls at hl ⊢
  have hl : lv_has ls 5 [(0, .ref h0), (1, .int p0), (2, .int p1), (3, .int p2)] := hl
  refine lv_iload_n hx hb dX11_drawn_0 rfl (lv_at hl 1 rfl) ?_
  refine lv_iconst (v := 0) hx hb dX11_drawn_1 (by decide) ?_
  refine lv_ldc (v := 2000000000) hx hb hown (hts _ tw_753) dX11_drawn_2 ?_
  refine cpSi (rest := []) ⟨hx, hb, hml, hown, hts⟩ hKN (hP.sub (ws' := []) [] rfl) (k_X11_isWithin l D cA p0 0 2000000000) (tb_S tw_515 tw_516 tw_101 tw_517) hdX11_isWithin ⟨rfl, rfl, Nat.le_of_ble_eq_true rfl, Nat.le_of_ble_eq_true rfl⟩ ⟨Nat.le_of_ble_eq_true rfl, Nat.le_of_ble_eq_true rfl⟩ rfl hl.1 rfl (Nat.le_of_ble_eq_true rfl) dX11_drawn_4 (fun r_1 hr_1 => ?_)
  rcases hr_1 with ⟨k_1_0, rfl⟩ | ⟨k_1_1, rfl⟩
  · skip
    refine lv_if_ne (tgt := 13) hx hb dX11_drawn_7 (by decide) (fun c_2 => ?_) (fun c_2 => absurd c_2 (by decide))
    refine lv_aload_n hx hb dX11_drawn_13 rfl (lv_at hl 0 rfl) ?_
    refine va_get (D := D) (ci := 11) (v := .ref g) (C := RX11) (T := TX11) (N := 11) hx hb hts inX11 hown hKN.1 hP 0 rfl rfl 2 (by decide) (hts _ tw_467) (fun _ h9 => h9) rfl dX11_drawn_14 ?_
    refine lv_iload_n hx hb dX11_drawn_17 rfl (lv_at hl 2 rfl) ?_
    refine lv_iload_n hx hb dX11_drawn_18 rfl (lv_at hl 3 rfl) ?_
    refine cpVi (rest := []) ⟨hx, hb, hml, hown, hts⟩ hKN (hP.sub (ws' := [(g, .inr (3, [.int 0, .int 0, .int 0, .int 0, .int 0, .int 0, .int 0, .int 0, .ref g_sides, .ref g_grips, .ref g_wits, .ref g_says, .ref g_gives0, .ref g_gives1, .ref g_froms, .ref g_tos]))]) [1] rfl) (k_X3_holdOrRefusal l D cA g g_sides g_grips g_wits g_says g_gives0 g_gives1 g_froms g_tos p1 p2) (tb_V tw_843 tw_844 tw_845 tw_104 tw_846) hdX3_holdOrRefusal ⟨rfl, rfl, Nat.le_of_ble_eq_true rfl, Nat.le_of_ble_eq_true rfl⟩ ⟨Nat.le_of_ble_eq_true rfl, Nat.le_of_ble_eq_true rfl⟩ rfl rfl rfl hl.1 rfl (Nat.le_of_ble_eq_true rfl) dX11_drawn_19 (fun r_3 hr_3 => ?_)
    obtain rfl : r_3 = (-2) := hr_3
    refine lv_istore (lv' := [(4, .int (-2)), (0, .ref h0), (1, .int p0), (2, .int p1), (3, .int p2)]) hx hb dX11_drawn_22 hl (by decide) rfl (fun ls hl => ?_)
    refine lv_iload hx hb dX11_drawn_24 (lv_at hl 0 rfl) ?_
    refine lv_if_ge (tgt := 34) hx hb dX11_drawn_26 (by decide) (fun c_4 => absurd c_4 (by decide)) (fun c_4 => ?_)
    refine lv_iload hx hb dX11_drawn_29 (lv_at hl 0 rfl) ?_
    refine lv_goto (tgt := 41) hx hb dX11_drawn_31 (by decide) ?_
    exact W.iret (v := (-2)) hx hb hr (fun t ht hW => ⟨(-2), rfl, rfl, ht⟩) (fun _ h => by cases h) dX11_drawn_41
  · skip
    refine lv_if_ne (tgt := 13) hx hb dX11_drawn_7 (by decide) (fun c_5 => absurd (by decide) c_5) (fun c_5 => ?_)
    refine lv_bipush (v := (-2)) hx hb dX11_drawn_10 (by decide) ?_
    exact W.iret (v := (-2)) hx hb hr (fun t ht hW => ⟨(-2), rfl, rfl, ht⟩) (fun _ h => by cases h) dX11_drawn_12
set_option maxHeartbeats 4000000 in
set_option maxRecDepth 100000 in
theorem k_X11_luck (l : Launch) (D : va_G) (cA : Nat → ClassId) (h0 : Nat) (tp : Nat) (rd : Nat) (g : Nat) (ev : Nat) (im : Nat) (sl : Nat) (co : Nat) (pa : Nat) (sp : Nat) (ba : Nat) (we : Nat) (g_sides : Nat) (g_grips : Nat) (g_wits : Nat) (g_says : Nat) (g_gives0 : Nat) (g_gives1 : Nat) (g_froms : Nat) (g_tos : Nat) (p0 : Int32) (p1 : Int32) (p2 : Int32) (p3 : Int32) (p4 : Int32) : Met l yX11_luck (Cond.code yX11_luck cX11_luck 9 (some .int) :: TB) (rmd 1 0 0) (PP D cA [(h0, .inr (11, [.ref tp, .ref rd, .ref g, .ref ev, .ref im, .ref sl, .ref co, .ref pa, .ref sp, .ref ba, .ref we])), (g, .inr (3, [.int 0, .int 0, .int 0, .int 0, .int 0, .int 0, .int 0, .int 0, .ref g_sides, .ref g_grips, .ref g_wits, .ref g_says, .ref g_gives0, .ref g_gives1, .ref g_froms, .ref g_tos]))] [.ref h0, .int p0, .int p1, .int p2, .int p3, .int p4]) (vp_Si (fun r => r = (-2))) 0 0 (fun _ => False) := by
  refine Met.ofW (cc := cX11_luck) (maxL := 9) (ret := (some .int)) (by decide) rfl ?_
  intro p e s m args below meth c s₁ B hml hv
  obtain ⟨rfl, hP, hKN⟩ := hv
  have hx := B.exec
  have hb := B.bytes
  have hr := B.returns
  have hts : ∀ w ∈ TB, w.before _ s = true := fun w h => atoms_spec B.pre w (List.mem_cons_of_mem _ h)
  have hown : s.vm.findClass RX11 = some m.cls := findClass_of_methodNamed B.named
  have hlocks := B.notSynchronized
  have hl := lv_entry ([.ref h0, .int p0, .int p1, .int p2, .int p3, .int p4]) (n := 9) (Nat.le_of_ble_eq_true rfl)
  rw [lg_entry_eq]
  generalize (lg_sl ([.ref h0, .int p0, .int p1, .int p2, .int p3, .int p4]) ++ List.replicate (9 - (lg_sl ([.ref h0, .int p0, .int p1, .int p2, .int p3, .int p4])).length) Slot.unset).toArray = ls at hl ⊢
  have hl : lv_has ls 9 [(0, .ref h0), (1, .int p0), (2, .int p1), (3, .int p2), (4, .int p3), (5, .int p4)] := hl
  refine lv_iload_n hx hb dX11_luck_0 rfl (lv_at hl 1 rfl) ?_
  refine lv_iconst (v := 0) hx hb dX11_luck_1 (by decide) ?_
  refine lv_ldc (v := 2000000000) hx hb hown (hts _ tw_753) dX11_luck_2 ?_
  refine cpSi (rest := []) ⟨hx, hb, hml, hown, hts⟩ hKN (hP.sub (ws' := []) [] rfl) (k_X11_isWithin l D cA p0 0 2000000000) (tb_S tw_515 tw_516 tw_101 tw_517) hdX11_isWithin ⟨rfl, rfl, Nat.le_of_ble_eq_true rfl, Nat.le_of_ble_eq_true rfl⟩ ⟨Nat.le_of_ble_eq_true rfl, Nat.le_of_ble_eq_true rfl⟩ rfl hl.1 rfl (Nat.le_of_ble_eq_true rfl) dX11_luck_4 (fun r_1 hr_1 => ?_)
  rcases hr_1 with ⟨k_1_0, rfl⟩ | ⟨k_1_1, rfl⟩
  · skip
    refine lv_if_eq (tgt := 32) hx hb dX11_luck_7 (by decide) (fun c_2 => absurd c_2 (by decide)) (fun c_2 => ?_)
    refine lv_iload_n hx hb dX11_luck_10 rfl (lv_at hl 2 rfl) ?_
    refine lv_iconst (v := 1) hx hb dX11_luck_11 (by decide) ?_
    refine lv_bipush (v := 20) hx hb dX11_luck_12 (by decide) ?_
    refine cpSi (rest := []) ⟨hx, hb, hml, hown, hts⟩ hKN (hP.sub (ws' := []) [] rfl) (k_X11_isWithin l D cA p1 1 20) (tb_S tw_515 tw_516 tw_101 tw_517) hdX11_isWithin ⟨rfl, rfl, Nat.le_of_ble_eq_true rfl, Nat.le_of_ble_eq_true rfl⟩ ⟨Nat.le_of_ble_eq_true rfl, Nat.le_of_ble_eq_true rfl⟩ rfl hl.1 rfl (Nat.le_of_ble_eq_true rfl) dX11_luck_14 (fun r_3 hr_3 => ?_)
    rcases hr_3 with ⟨k_3_0, rfl⟩ | ⟨k_3_1, rfl⟩
    · skip
      refine lv_if_eq (tgt := 32) hx hb dX11_luck_17 (by decide) (fun c_4 => absurd c_4 (by decide)) (fun c_4 => ?_)
      refine lv_aload_n hx hb dX11_luck_20 rfl (lv_at hl 0 rfl) ?_
      refine va_get (D := D) (ci := 11) (v := .ref g) (C := RX11) (T := TX11) (N := 11) hx hb hts inX11 hown hKN.1 hP 0 rfl rfl 2 (by decide) (hts _ tw_467) (fun _ h9 => h9) rfl dX11_luck_21 ?_
      refine lv_iload hx hb dX11_luck_24 (lv_at hl 5 rfl) ?_
      refine cpVi (rest := []) ⟨hx, hb, hml, hown, hts⟩ hKN (hP.sub (ws' := [(g, .inr (3, [.int 0, .int 0, .int 0, .int 0, .int 0, .int 0, .int 0, .int 0, .ref g_sides, .ref g_grips, .ref g_wits, .ref g_says, .ref g_gives0, .ref g_gives1, .ref g_froms, .ref g_tos]))]) [1] rfl) (k_X3_hasClause l D cA g g_sides g_grips g_wits g_says g_gives0 g_gives1 g_froms g_tos p4) (tb_V tw_719 tw_720 tw_721 tw_104 tw_722) hdX3_hasClause ⟨rfl, rfl, Nat.le_of_ble_eq_true rfl, Nat.le_of_ble_eq_true rfl⟩ ⟨Nat.le_of_ble_eq_true rfl, Nat.le_of_ble_eq_true rfl⟩ rfl rfl rfl hl.1 rfl (Nat.le_of_ble_eq_true rfl) dX11_luck_26 (fun r_5 hr_5 => ?_)
      obtain rfl : r_5 = 0 := hr_5
      refine lv_if_ne (tgt := 35) hx hb dX11_luck_29 (by decide) (fun c_6 => absurd (by decide) c_6) (fun c_6 => ?_)
      refine lv_bipush (v := (-2)) hx hb dX11_luck_32 (by decide) ?_
      exact W.iret (v := (-2)) hx hb hr (fun t ht hW => ⟨(-2), rfl, rfl, ht⟩) (fun _ h => by cases h) dX11_luck_34
    · skip
      refine lv_if_eq (tgt := 32) hx hb dX11_luck_17 (by decide) (fun c_7 => ?_) (fun c_7 => absurd (by decide) c_7)
      refine lv_bipush (v := (-2)) hx hb dX11_luck_32 (by decide) ?_
      exact W.iret (v := (-2)) hx hb hr (fun t ht hW => ⟨(-2), rfl, rfl, ht⟩) (fun _ h => by cases h) dX11_luck_34
  · skip
    refine lv_if_eq (tgt := 32) hx hb dX11_luck_7 (by decide) (fun c_8 => ?_) (fun c_8 => absurd (by decide) c_8)
    refine lv_bipush (v := (-2)) hx hb dX11_luck_32 (by decide) ?_
    exact W.iret (v := (-2)) hx hb hr (fun t ht hW => ⟨(-2), rfl, rfl, ht⟩) (fun _ h => by cases h) dX11_luck_34
set_option maxHeartbeats 4000000 in
set_option maxRecDepth 100000 in
theorem k_X11_grip (l : Launch) (D : va_G) (cA : Nat → ClassId) (h0 : Nat) (tp : Nat) (rd : Nat) (g : Nat) (ev : Nat) (im : Nat) (sl : Nat) (co : Nat) (pa : Nat) (sp : Nat) (ba : Nat) (we : Nat) (g_sides : Nat) (g_grips : Nat) (g_wits : Nat) (g_says : Nat) (g_gives0 : Nat) (g_gives1 : Nat) (g_froms : Nat) (g_tos : Nat) (p0 : Int32) (p1 : Int32) : Met l yX11_grip (Cond.code yX11_grip cX11_grip 4 (some .int) :: TB) (rmd 1 0 0) (PP D cA [(h0, .inr (11, [.ref tp, .ref rd, .ref g, .ref ev, .ref im, .ref sl, .ref co, .ref pa, .ref sp, .ref ba, .ref we])), (g, .inr (3, [.int 0, .int 0, .int 0, .int 0, .int 0, .int 0, .int 0, .int 0, .ref g_sides, .ref g_grips, .ref g_wits, .ref g_says, .ref g_gives0, .ref g_gives1, .ref g_froms, .ref g_tos]))] [.ref h0, .int p0, .int p1]) (vp_Si (fun r => r = (-2))) 0 0 (fun _ => False) := by
  refine Met.ofW (cc := cX11_grip) (maxL := 4) (ret := (some .int)) (by decide) rfl ?_
  intro p e s m args below meth c s₁ B hml hv
  obtain ⟨rfl, hP, hKN⟩ := hv
  have hx := B.exec
  have hb := B.bytes
  have hr := B.returns
  have hts : ∀ w ∈ TB, w.before _ s = true := fun w h => atoms_spec B.pre w (List.mem_cons_of_mem _ h)
  have hown : s.vm.findClass RX11 = some m.cls := findClass_of_methodNamed B.named
  have hlocks := B.notSynchronized
  have hl := lv_entry ([.ref h0, .int p0, .int p1]) (n := 4) (Nat.le_of_ble_eq_true rfl)
  rw [lg_entry_eq]
  generalize (lg_sl ([.ref h0, .int p0, .int p1]) ++ List.replicate (4 - (lg_sl ([.ref h0, .int p0, .int p1])).length) Slot.unset).toArray = ls at hl ⊢
  have hl : lv_has ls 4 [(0, .ref h0), (1, .int p0), (2, .int p1)] := hl
  refine lv_aload_n hx hb dX11_grip_0 rfl (lv_at hl 0 rfl) ?_
  refine va_get (D := D) (ci := 11) (v := .ref g) (C := RX11) (T := TX11) (N := 11) hx hb hts inX11 hown hKN.1 hP 0 rfl rfl 2 (by decide) (hts _ tw_467) (fun _ h9 => h9) rfl dX11_grip_1 ?_
  refine lv_iload_n hx hb dX11_grip_4 rfl (lv_at hl 1 rfl) ?_
  refine cpVi (rest := []) ⟨hx, hb, hml, hown, hts⟩ hKN (hP.sub (ws' := [(g, .inr (3, [.int 0, .int 0, .int 0, .int 0, .int 0, .int 0, .int 0, .int 0, .ref g_sides, .ref g_grips, .ref g_wits, .ref g_says, .ref g_gives0, .ref g_gives1, .ref g_froms, .ref g_tos]))]) [1] rfl) (k_X3_hasMan l D cA g g_sides g_grips g_wits g_says g_gives0 g_gives1 g_froms g_tos p0) (tb_V tw_698 tw_699 tw_700 tw_104 tw_701) hdX3_hasMan ⟨rfl, rfl, Nat.le_of_ble_eq_true rfl, Nat.le_of_ble_eq_true rfl⟩ ⟨Nat.le_of_ble_eq_true rfl, Nat.le_of_ble_eq_true rfl⟩ rfl rfl rfl hl.1 rfl (Nat.le_of_ble_eq_true rfl) dX11_grip_5 (fun r_1 hr_1 => ?_)
  obtain rfl : r_1 = 0 := hr_1
  refine lv_if_eq (tgt := 21) hx hb dX11_grip_8 (by decide) (fun c_2 => ?_) (fun c_2 => absurd (by decide) c_2)
  refine lv_bipush (v := (-2)) hx hb dX11_grip_21 (by decide) ?_
  exact W.iret (v := (-2)) hx hb hr (fun t ht hW => ⟨(-2), rfl, rfl, ht⟩) (fun _ h => by cases h) dX11_grip_23
set_option maxHeartbeats 4000000 in
set_option maxRecDepth 100000 in
theorem k_X11_clause (l : Launch) (D : va_G) (cA : Nat → ClassId) (h0 : Nat) (tp : Nat) (rd : Nat) (g : Nat) (ev : Nat) (im : Nat) (sl : Nat) (co : Nat) (pa : Nat) (sp : Nat) (ba : Nat) (we : Nat) (g_sides : Nat) (g_grips : Nat) (g_wits : Nat) (g_says : Nat) (g_gives0 : Nat) (g_gives1 : Nat) (g_froms : Nat) (g_tos : Nat) (p0 : Int32) (p1 : Int32) : Met l yX11_clause (Cond.code yX11_clause cX11_clause 3 (some .int) :: TB) (rmd 1 0 0) (PP D cA [(h0, .inr (11, [.ref tp, .ref rd, .ref g, .ref ev, .ref im, .ref sl, .ref co, .ref pa, .ref sp, .ref ba, .ref we])), (g, .inr (3, [.int 0, .int 0, .int 0, .int 0, .int 0, .int 0, .int 0, .int 0, .ref g_sides, .ref g_grips, .ref g_wits, .ref g_says, .ref g_gives0, .ref g_gives1, .ref g_froms, .ref g_tos]))] [.ref h0, .int p0, .int p1]) (vp_Si (fun r => r = (-1000))) 0 0 (fun _ => False) := by
  refine Met.ofW (cc := cX11_clause) (maxL := 3) (ret := (some .int)) (by decide) rfl ?_
  intro p e s m args below meth c s₁ B hml hv
  obtain ⟨rfl, hP, hKN⟩ := hv
  have hx := B.exec
  have hb := B.bytes
  have hr := B.returns
  have hts : ∀ w ∈ TB, w.before _ s = true := fun w h => atoms_spec B.pre w (List.mem_cons_of_mem _ h)
  have hown : s.vm.findClass RX11 = some m.cls := findClass_of_methodNamed B.named
  have hlocks := B.notSynchronized
  have hl := lv_entry ([.ref h0, .int p0, .int p1]) (n := 3) (Nat.le_of_ble_eq_true rfl)
  rw [lg_entry_eq]
  generalize (lg_sl ([.ref h0, .int p0, .int p1]) ++ List.replicate (3 - (lg_sl ([.ref h0, .int p0, .int p1])).length) Slot.unset).toArray = ls at hl ⊢
  have hl : lv_has ls 3 [(0, .ref h0), (1, .int p0), (2, .int p1)] := hl
  refine lv_aload_n hx hb dX11_clause_0 rfl (lv_at hl 0 rfl) ?_
  refine va_get (D := D) (ci := 11) (v := .ref g) (C := RX11) (T := TX11) (N := 11) hx hb hts inX11 hown hKN.1 hP 0 rfl rfl 2 (by decide) (hts _ tw_467) (fun _ h9 => h9) rfl dX11_clause_1 ?_
  refine lv_iload_n hx hb dX11_clause_4 rfl (lv_at hl 1 rfl) ?_
  refine cpVi (rest := []) ⟨hx, hb, hml, hown, hts⟩ hKN (hP.sub (ws' := [(g, .inr (3, [.int 0, .int 0, .int 0, .int 0, .int 0, .int 0, .int 0, .int 0, .ref g_sides, .ref g_grips, .ref g_wits, .ref g_says, .ref g_gives0, .ref g_gives1, .ref g_froms, .ref g_tos]))]) [1] rfl) (k_X3_hasClause l D cA g g_sides g_grips g_wits g_says g_gives0 g_gives1 g_froms g_tos p0) (tb_V tw_719 tw_720 tw_721 tw_104 tw_722) hdX3_hasClause ⟨rfl, rfl, Nat.le_of_ble_eq_true rfl, Nat.le_of_ble_eq_true rfl⟩ ⟨Nat.le_of_ble_eq_true rfl, Nat.le_of_ble_eq_true rfl⟩ rfl rfl rfl hl.1 rfl (Nat.le_of_ble_eq_true rfl) dX11_clause_5 (fun r_1 hr_1 => ?_)
  obtain rfl : r_1 = 0 := hr_1
  refine lv_if_ne (tgt := 15) hx hb dX11_clause_8 (by decide) (fun c_2 => absurd (by decide) c_2) (fun c_2 => ?_)
  refine lv_sipush (v := (-1000)) hx hb dX11_clause_11 (by decide) ?_
  exact W.iret (v := (-1000)) hx hb hr (fun t ht hW => ⟨(-1000), rfl, rfl, ht⟩) (fun _ h => by cases h) dX11_clause_14
set_option maxHeartbeats 4000000 in
set_option maxRecDepth 100000 in
theorem k_X11_worth (l : Launch) (D : va_G) (cA : Nat → ClassId) (h0 : Nat) (tp : Nat) (rd : Nat) (g : Nat) (ev : Nat) (im : Nat) (sl : Nat) (co : Nat) (pa : Nat) (sp : Nat) (ba : Nat) (we : Nat) (g_sides : Nat) (g_grips : Nat) (g_wits : Nat) (g_says : Nat) (g_gives0 : Nat) (g_gives1 : Nat) (g_froms : Nat) (g_tos : Nat) (p0 : Int32) (p1 : Int32) : Met l yX11_worth (Cond.code yX11_worth cX11_worth 3 (some .int) :: TB) (rmd 2 0 0) (PP D cA [(h0, .inr (11, [.ref tp, .ref rd, .ref g, .ref ev, .ref im, .ref sl, .ref co, .ref pa, .ref sp, .ref ba, .ref we])), (g, .inr (3, [.int 0, .int 0, .int 0, .int 0, .int 0, .int 0, .int 0, .int 0, .ref g_sides, .ref g_grips, .ref g_wits, .ref g_says, .ref g_gives0, .ref g_gives1, .ref g_froms, .ref g_tos]))] [.ref h0, .int p0, .int p1]) (vp_Si (fun r => r = (-1000))) 0 0 (fun _ => False) := by
  refine Met.ofW (cc := cX11_worth) (maxL := 3) (ret := (some .int)) (by decide) rfl ?_
  intro p e s m args below meth c s₁ B hml hv
  obtain ⟨rfl, hP, hKN⟩ := hv
  have hx := B.exec
  have hb := B.bytes
  have hr := B.returns
  have hts : ∀ w ∈ TB, w.before _ s = true := fun w h => atoms_spec B.pre w (List.mem_cons_of_mem _ h)
  have hown : s.vm.findClass RX11 = some m.cls := findClass_of_methodNamed B.named
  have hlocks := B.notSynchronized
  have hl := lv_entry ([.ref h0, .int p0, .int p1]) (n := 3) (Nat.le_of_ble_eq_true rfl)
  rw [lg_entry_eq]
  generalize (lg_sl ([.ref h0, .int p0, .int p1]) ++ List.replicate (3 - (lg_sl ([.ref h0, .int p0, .int p1])).length) Slot.unset).toArray = ls at hl ⊢
  have hl : lv_has ls 3 [(0, .ref h0), (1, .int p0), (2, .int p1)] := hl
  refine lv_aload_n hx hb dX11_worth_0 rfl (lv_at hl 0 rfl) ?_
  refine va_get (D := D) (ci := 11) (v := .ref g) (C := RX11) (T := TX11) (N := 11) hx hb hts inX11 hown hKN.1 hP 0 rfl rfl 2 (by decide) (hts _ tw_467) (fun _ h9 => h9) rfl dX11_worth_1 ?_
  refine lv_iload_n hx hb dX11_worth_4 rfl (lv_at hl 2 rfl) ?_
  refine cpVi (rest := []) ⟨hx, hb, hml, hown, hts⟩ hKN (hP.sub (ws' := [(g, .inr (3, [.int 0, .int 0, .int 0, .int 0, .int 0, .int 0, .int 0, .int 0, .ref g_sides, .ref g_grips, .ref g_wits, .ref g_says, .ref g_gives0, .ref g_gives1, .ref g_froms, .ref g_tos]))]) [1] rfl) (k_X3_hasSide l D cA g g_sides g_grips g_wits g_says g_gives0 g_gives1 g_froms g_tos p1) (tb_V tw_736 tw_737 tw_738 tw_104 tw_739) hdX3_hasSide ⟨rfl, rfl, Nat.le_of_ble_eq_true rfl, Nat.le_of_ble_eq_true rfl⟩ ⟨Nat.le_of_ble_eq_true rfl, Nat.le_of_ble_eq_true rfl⟩ rfl rfl rfl hl.1 rfl (Nat.le_of_ble_eq_true rfl) dX11_worth_5 (fun r_1 hr_1 => ?_)
  obtain rfl : r_1 = 0 := hr_1
  refine lv_if_eq (tgt := 26) hx hb dX11_worth_8 (by decide) (fun c_2 => ?_) (fun c_2 => absurd (by decide) c_2)
  refine lv_sipush (v := (-1000)) hx hb dX11_worth_26 (by decide) ?_
  exact W.iret (v := (-1000)) hx hb hr (fun t ht hW => ⟨(-1000), rfl, rfl, ht⟩) (fun _ h => by cases h) dX11_worth_29
set_option maxHeartbeats 4000000 in
set_option maxRecDepth 100000 in
theorem k_X11_now (l : Launch) (D : va_G) (cA : Nat → ClassId) (h0 : Nat) (tp : Nat) (rd : Nat) (g : Nat) (ev : Nat) (im : Nat) (sl : Nat) (co : Nat) (pa : Nat) (sp : Nat) (ba : Nat) (we : Nat) (g_sides : Nat) (g_grips : Nat) (g_wits : Nat) (g_says : Nat) (g_gives0 : Nat) (g_gives1 : Nat) (g_froms : Nat) (g_tos : Nat) (p0 : Int32) : Met l yX11_now (Cond.code yX11_now cX11_now 2 (some .int) :: TB) (rmd 1 0 0) (PP D cA [(h0, .inr (11, [.ref tp, .ref rd, .ref g, .ref ev, .ref im, .ref sl, .ref co, .ref pa, .ref sp, .ref ba, .ref we])), (g, .inr (3, [.int 0, .int 0, .int 0, .int 0, .int 0, .int 0, .int 0, .int 0, .ref g_sides, .ref g_grips, .ref g_wits, .ref g_says, .ref g_gives0, .ref g_gives1, .ref g_froms, .ref g_tos]))] [.ref h0, .int p0]) (vp_Si (fun r => r = (-1000))) 0 0 (fun _ => False) := by
  refine Met.ofW (cc := cX11_now) (maxL := 2) (ret := (some .int)) (by decide) rfl ?_
  intro p e s m args below meth c s₁ B hml hv
  obtain ⟨rfl, hP, hKN⟩ := hv
  have hx := B.exec
  have hb := B.bytes
  have hr := B.returns
  have hts : ∀ w ∈ TB, w.before _ s = true := fun w h => atoms_spec B.pre w (List.mem_cons_of_mem _ h)
  have hown : s.vm.findClass RX11 = some m.cls := findClass_of_methodNamed B.named
  have hlocks := B.notSynchronized
  have hl := lv_entry ([.ref h0, .int p0]) (n := 2) (Nat.le_of_ble_eq_true rfl)
  rw [lg_entry_eq]
  generalize (lg_sl ([.ref h0, .int p0]) ++ List.replicate (2 - (lg_sl ([.ref h0, .int p0])).length) Slot.unset).toArray = ls at hl ⊢
  have hl : lv_has ls 2 [(0, .ref h0), (1, .int p0)] := hl
  refine lv_aload_n hx hb dX11_now_0 rfl (lv_at hl 0 rfl) ?_
  refine va_get (D := D) (ci := 11) (v := .ref g) (C := RX11) (T := TX11) (N := 11) hx hb hts inX11 hown hKN.1 hP 0 rfl rfl 2 (by decide) (hts _ tw_467) (fun _ h9 => h9) rfl dX11_now_1 ?_
  refine cpVi (rest := []) ⟨hx, hb, hml, hown, hts⟩ hKN (hP.sub (ws' := [(g, .inr (3, [.int 0, .int 0, .int 0, .int 0, .int 0, .int 0, .int 0, .int 0, .ref g_sides, .ref g_grips, .ref g_wits, .ref g_says, .ref g_gives0, .ref g_gives1, .ref g_froms, .ref g_tos]))]) [1] rfl) (k_X3_exists l D cA g g_sides g_grips g_wits g_says g_gives0 g_gives1 g_froms g_tos) (tb_V tw_768 tw_741 tw_742 tw_104 tw_743) hdX3_exists ⟨rfl, rfl, Nat.le_of_ble_eq_true rfl, Nat.le_of_ble_eq_true rfl⟩ ⟨Nat.le_of_ble_eq_true rfl, Nat.le_of_ble_eq_true rfl⟩ rfl rfl rfl hl.1 rfl (Nat.le_of_ble_eq_true rfl) dX11_now_4 (fun r_1 hr_1 => ?_)
  obtain rfl : r_1 = 0 := hr_1
  refine lv_if_ne (tgt := 14) hx hb dX11_now_7 (by decide) (fun c_2 => absurd (by decide) c_2) (fun c_2 => ?_)
  refine lv_sipush (v := (-1000)) hx hb dX11_now_10 (by decide) ?_
  exact W.iret (v := (-1000)) hx hb hr (fun t ht hW => ⟨(-1000), rfl, rfl, ht⟩) (fun _ h => by cases h) dX11_now_13
set_option maxHeartbeats 4000000 in
set_option maxRecDepth 100000 in
theorem k_X11_chance (l : Launch) (D : va_G) (cA : Nat → ClassId) (h0 : Nat) (tp : Nat) (rd : Nat) (g : Nat) (ev : Nat) (im : Nat) (sl : Nat) (co : Nat) (pa : Nat) (sp : Nat) (ba : Nat) (we : Nat) (g_sides : Nat) (g_grips : Nat) (g_wits : Nat) (g_says : Nat) (g_gives0 : Nat) (g_gives1 : Nat) (g_froms : Nat) (g_tos : Nat) (p0 : Int32) (p1 : Int32) (p2 : Int32) (p3 : Int32) : Met l yX11_chance (Cond.code yX11_chance cX11_chance 8 (some .long) :: TB) (rmd 2 0 0) (PP D cA [(h0, .inr (11, [.ref tp, .ref rd, .ref g, .ref ev, .ref im, .ref sl, .ref co, .ref pa, .ref sp, .ref ba, .ref we])), (g, .inr (3, [.int 0, .int 0, .int 0, .int 0, .int 0, .int 0, .int 0, .int 0, .ref g_sides, .ref g_grips, .ref g_wits, .ref g_says, .ref g_gives0, .ref g_gives1, .ref g_froms, .ref g_tos]))] [.ref h0, .int p0, .int p1, .int p2, .int p3]) (vp_Sl (fun r => r = (-2))) 0 0 (fun _ => False) := by
  refine Met.ofW (cc := cX11_chance) (maxL := 8) (ret := (some .long)) (by decide) rfl ?_
  intro p e s m args below meth c s₁ B hml hv
  obtain ⟨rfl, hP, hKN⟩ := hv
  have hx := B.exec
  have hb := B.bytes
  have hr := B.returns
  have hts : ∀ w ∈ TB, w.before _ s = true := fun w h => atoms_spec B.pre w (List.mem_cons_of_mem _ h)
  have hown : s.vm.findClass RX11 = some m.cls := findClass_of_methodNamed B.named
  have hlocks := B.notSynchronized
  have hl := lv_entry ([.ref h0, .int p0, .int p1, .int p2, .int p3]) (n := 8) (Nat.le_of_ble_eq_true rfl)
  rw [lg_entry_eq]
  generalize (lg_sl ([.ref h0, .int p0, .int p1, .int p2, .int p3]) ++ List.replicate (8 - (lg_sl ([.ref h0, .int p0, .int p1, .int p2, .int p3])).length) Slot.unset).toArray = ls at hl ⊢
  have hl : lv_has ls 8 [(0, .ref h0), (1, .int p0), (2, .int p1), (3, .int p2), (4, .int p3)] := hl
  refine lv_iload_n hx hb dX11_chance_0 rfl (lv_at hl 3 rfl) ?_
  refine lv_iconst (v := 0) hx hb dX11_chance_1 (by decide) ?_
  refine lv_bipush (v := 18) hx hb dX11_chance_2 (by decide) ?_
  refine cpSi (rest := []) ⟨hx, hb, hml, hown, hts⟩ hKN (hP.sub (ws' := []) [] rfl) (k_X11_isWithin l D cA p2 0 18) (tb_S tw_515 tw_516 tw_101 tw_517) hdX11_isWithin ⟨rfl, rfl, Nat.le_of_ble_eq_true rfl, Nat.le_of_ble_eq_true rfl⟩ ⟨Nat.le_of_ble_eq_true rfl, Nat.le_of_ble_eq_true rfl⟩ rfl hl.1 rfl (Nat.le_of_ble_eq_true rfl) dX11_chance_4 (fun r_1 hr_1 => ?_)
  rcases hr_1 with ⟨k_1_0, rfl⟩ | ⟨k_1_1, rfl⟩
  · skip
    refine lv_if_eq (tgt := 20) hx hb dX11_chance_7 (by decide) (fun c_2 => absurd c_2 (by decide)) (fun c_2 => ?_)
    refine lv_iload hx hb dX11_chance_10 (lv_at hl 4 rfl) ?_
    refine lv_iconst (v := 0) hx hb dX11_chance_12 (by decide) ?_
    refine lv_iconst (v := 1) hx hb dX11_chance_13 (by decide) ?_
    refine cpSi (rest := []) ⟨hx, hb, hml, hown, hts⟩ hKN (hP.sub (ws' := []) [] rfl) (k_X11_isWithin l D cA p3 0 1) (tb_S tw_515 tw_516 tw_101 tw_517) hdX11_isWithin ⟨rfl, rfl, Nat.le_of_ble_eq_true rfl, Nat.le_of_ble_eq_true rfl⟩ ⟨Nat.le_of_ble_eq_true rfl, Nat.le_of_ble_eq_true rfl⟩ rfl hl.1 rfl (Nat.le_of_ble_eq_true rfl) dX11_chance_14 (fun r_3 hr_3 => ?_)
    rcases hr_3 with ⟨k_3_0, rfl⟩ | ⟨k_3_1, rfl⟩
    · skip
      refine lv_if_ne (tgt := 24) hx hb dX11_chance_17 (by decide) (fun c_4 => ?_) (fun c_4 => absurd c_4 (by decide))
      refine lv_aload_n hx hb dX11_chance_24 rfl (lv_at hl 0 rfl) ?_
      refine va_get (D := D) (ci := 11) (v := .ref g) (C := RX11) (T := TX11) (N := 11) hx hb hts inX11 hown hKN.1 hP 0 rfl rfl 2 (by decide) (hts _ tw_467) (fun _ h9 => h9) rfl dX11_chance_25 ?_
      refine lv_iload_n hx hb dX11_chance_28 rfl (lv_at hl 1 rfl) ?_
      refine lv_iload_n hx hb dX11_chance_29 rfl (lv_at hl 2 rfl) ?_
      refine cpVi (rest := []) ⟨hx, hb, hml, hown, hts⟩ hKN (hP.sub (ws' := [(g, .inr (3, [.int 0, .int 0, .int 0, .int 0, .int 0, .int 0, .int 0, .int 0, .ref g_sides, .ref g_grips, .ref g_wits, .ref g_says, .ref g_gives0, .ref g_gives1, .ref g_froms, .ref g_tos]))]) [1] rfl) (k_X3_holdOrRefusal l D cA g g_sides g_grips g_wits g_says g_gives0 g_gives1 g_froms g_tos p0 p1) (tb_V tw_843 tw_844 tw_845 tw_104 tw_846) hdX3_holdOrRefusal ⟨rfl, rfl, Nat.le_of_ble_eq_true rfl, Nat.le_of_ble_eq_true rfl⟩ ⟨Nat.le_of_ble_eq_true rfl, Nat.le_of_ble_eq_true rfl⟩ rfl rfl rfl hl.1 rfl (Nat.le_of_ble_eq_true rfl) dX11_chance_30 (fun r_5 hr_5 => ?_)
      obtain rfl : r_5 = (-2) := hr_5
      refine lv_istore (lv' := [(5, .int (-2)), (0, .ref h0), (1, .int p0), (2, .int p1), (3, .int p2), (4, .int p3)]) hx hb dX11_chance_33 hl (by decide) rfl (fun ls hl => ?_)
      refine lv_iload hx hb dX11_chance_35 (lv_at hl 0 rfl) ?_
      refine lv_if_ge (tgt := 44) hx hb dX11_chance_37 (by decide) (fun c_6 => absurd c_6 (by decide)) (fun c_6 => ?_)
      refine lv_iload hx hb dX11_chance_40 (lv_at hl 0 rfl) ?_
      refine lv_i2l (v := (-2)) hx hb dX11_chance_42 (by decide) ?_
      exact W.lret (v := (-2)) hx hb hr (fun t ht hW => ⟨(-2), rfl, rfl, ht⟩) (fun _ h => by cases h) dX11_chance_43
    · skip
      refine lv_if_ne (tgt := 24) hx hb dX11_chance_17 (by decide) (fun c_7 => absurd (by decide) c_7) (fun c_7 => ?_)
      refine lv_ldc2 (v := (-2)) hx hb hown (hts _ tw_1242) dX11_chance_20 ?_
      exact W.lret (v := (-2)) hx hb hr (fun t ht hW => ⟨(-2), rfl, rfl, ht⟩) (fun _ h => by cases h) dX11_chance_23
  · skip
    refine lv_if_eq (tgt := 20) hx hb dX11_chance_7 (by decide) (fun c_8 => ?_) (fun c_8 => absurd (by decide) c_8)
    refine lv_ldc2 (v := (-2)) hx hb hown (hts _ tw_1242) dX11_chance_20 ?_
    exact W.lret (v := (-2)) hx hb hr (fun t ht hW => ⟨(-2), rfl, rfl, ht⟩) (fun _ h => by cases h) dX11_chance_23
set_option maxHeartbeats 4000000 in
set_option maxRecDepth 100000 in
theorem k_X11_mean (l : Launch) (D : va_G) (cA : Nat → ClassId) (h0 : Nat) (tp : Nat) (rd : Nat) (g : Nat) (ev : Nat) (im : Nat) (sl : Nat) (co : Nat) (pa : Nat) (sp : Nat) (ba : Nat) (we : Nat) (g_sides : Nat) (g_grips : Nat) (g_wits : Nat) (g_says : Nat) (g_gives0 : Nat) (g_gives1 : Nat) (g_froms : Nat) (g_tos : Nat) (p0 : Int32) (p1 : Int32) (p2 : Int32) : Met l yX11_mean (Cond.code yX11_mean cX11_mean 9 (some .long) :: TB) (rmd 2 0 0) (PP D cA [(h0, .inr (11, [.ref tp, .ref rd, .ref g, .ref ev, .ref im, .ref sl, .ref co, .ref pa, .ref sp, .ref ba, .ref we])), (g, .inr (3, [.int 0, .int 0, .int 0, .int 0, .int 0, .int 0, .int 0, .int 0, .ref g_sides, .ref g_grips, .ref g_wits, .ref g_says, .ref g_gives0, .ref g_gives1, .ref g_froms, .ref g_tos]))] [.ref h0, .int p0, .int p1, .int p2]) (vp_Sl (fun r => r = (-2))) 0 0 (fun _ => False) := by
  refine Met.ofW (cc := cX11_mean) (maxL := 9) (ret := (some .long)) (by decide) rfl ?_
  intro p e s m args below meth c s₁ B hml hv
  obtain ⟨rfl, hP, hKN⟩ := hv
  have hx := B.exec
  have hb := B.bytes
  have hr := B.returns
  have hts : ∀ w ∈ TB, w.before _ s = true := fun w h => atoms_spec B.pre w (List.mem_cons_of_mem _ h)
  have hown : s.vm.findClass RX11 = some m.cls := findClass_of_methodNamed B.named
  have hlocks := B.notSynchronized
  have hl := lv_entry ([.ref h0, .int p0, .int p1, .int p2]) (n := 9) (Nat.le_of_ble_eq_true rfl)
  rw [lg_entry_eq]
  generalize (lg_sl ([.ref h0, .int p0, .int p1, .int p2]) ++ List.replicate (9 - (lg_sl ([.ref h0, .int p0, .int p1, .int p2])).length) Slot.unset).toArray = ls at hl ⊢
  have hl : lv_has ls 9 [(0, .ref h0), (1, .int p0), (2, .int p1), (3, .int p2)] := hl
  refine lv_iload_n hx hb dX11_mean_0 rfl (lv_at hl 3 rfl) ?_
  refine lv_iconst (v := 0) hx hb dX11_mean_1 (by decide) ?_
  refine lv_iconst (v := 1) hx hb dX11_mean_2 (by decide) ?_
  refine cpSi (rest := []) ⟨hx, hb, hml, hown, hts⟩ hKN (hP.sub (ws' := []) [] rfl) (k_X11_isWithin l D cA p2 0 1) (tb_S tw_515 tw_516 tw_101 tw_517) hdX11_isWithin ⟨rfl, rfl, Nat.le_of_ble_eq_true rfl, Nat.le_of_ble_eq_true rfl⟩ ⟨Nat.le_of_ble_eq_true rfl, Nat.le_of_ble_eq_true rfl⟩ rfl hl.1 rfl (Nat.le_of_ble_eq_true rfl) dX11_mean_3 (fun r_1 hr_1 => ?_)
  rcases hr_1 with ⟨k_1_0, rfl⟩ | ⟨k_1_1, rfl⟩
  · skip
    refine lv_if_ne (tgt := 13) hx hb dX11_mean_6 (by decide) (fun c_2 => ?_) (fun c_2 => absurd c_2 (by decide))
    refine lv_aload_n hx hb dX11_mean_13 rfl (lv_at hl 0 rfl) ?_
    refine va_get (D := D) (ci := 11) (v := .ref g) (C := RX11) (T := TX11) (N := 11) hx hb hts inX11 hown hKN.1 hP 0 rfl rfl 2 (by decide) (hts _ tw_467) (fun _ h9 => h9) rfl dX11_mean_14 ?_
    refine lv_iload_n hx hb dX11_mean_17 rfl (lv_at hl 1 rfl) ?_
    refine lv_iload_n hx hb dX11_mean_18 rfl (lv_at hl 2 rfl) ?_
    refine cpVi (rest := []) ⟨hx, hb, hml, hown, hts⟩ hKN (hP.sub (ws' := [(g, .inr (3, [.int 0, .int 0, .int 0, .int 0, .int 0, .int 0, .int 0, .int 0, .ref g_sides, .ref g_grips, .ref g_wits, .ref g_says, .ref g_gives0, .ref g_gives1, .ref g_froms, .ref g_tos]))]) [1] rfl) (k_X3_holdOrRefusal l D cA g g_sides g_grips g_wits g_says g_gives0 g_gives1 g_froms g_tos p0 p1) (tb_V tw_843 tw_844 tw_845 tw_104 tw_846) hdX3_holdOrRefusal ⟨rfl, rfl, Nat.le_of_ble_eq_true rfl, Nat.le_of_ble_eq_true rfl⟩ ⟨Nat.le_of_ble_eq_true rfl, Nat.le_of_ble_eq_true rfl⟩ rfl rfl rfl hl.1 rfl (Nat.le_of_ble_eq_true rfl) dX11_mean_19 (fun r_3 hr_3 => ?_)
    obtain rfl : r_3 = (-2) := hr_3
    refine lv_istore (lv' := [(4, .int (-2)), (0, .ref h0), (1, .int p0), (2, .int p1), (3, .int p2)]) hx hb dX11_mean_22 hl (by decide) rfl (fun ls hl => ?_)
    refine lv_iload hx hb dX11_mean_24 (lv_at hl 0 rfl) ?_
    refine lv_if_ge (tgt := 33) hx hb dX11_mean_26 (by decide) (fun c_4 => absurd c_4 (by decide)) (fun c_4 => ?_)
    refine lv_iload hx hb dX11_mean_29 (lv_at hl 0 rfl) ?_
    refine lv_i2l (v := (-2)) hx hb dX11_mean_31 (by decide) ?_
    exact W.lret (v := (-2)) hx hb hr (fun t ht hW => ⟨(-2), rfl, rfl, ht⟩) (fun _ h => by cases h) dX11_mean_32
  · skip
    refine lv_if_ne (tgt := 13) hx hb dX11_mean_6 (by decide) (fun c_5 => absurd (by decide) c_5) (fun c_5 => ?_)
    refine lv_ldc2 (v := (-2)) hx hb hown (hts _ tw_1242) dX11_mean_9 ?_
    exact W.lret (v := (-2)) hx hb hr (fun t ht hW => ⟨(-2), rfl, rfl, ht⟩) (fun _ h => by cases h) dX11_mean_12
set_option maxHeartbeats 4000000 in
set_option maxRecDepth 100000 in
theorem k_X11_fault (l : Launch) (D : va_G) (cA : Nat → ClassId) (h0 : Nat) (tp : Nat) (rd : Nat) (g : Nat) (ev : Nat) (im : Nat) (sl : Nat) (co : Nat) (pa : Nat) (sp : Nat) (ba : Nat) (we : Nat) (draft : Nat) (numbers : Nat) (p0 : Int32) : Met l yX11_fault (Cond.code yX11_fault cX11_fault 2 (some .int) :: TB) (rmd 0 0 0) (PP D cA [(h0, .inr (11, [.ref tp, .ref rd, .ref g, .ref ev, .ref im, .ref sl, .ref co, .ref pa, .ref sp, .ref ba, .ref we])), (rd, .inr (6, [.ref draft, .int 0, .int (-1), .ref tp, .int 0, .int 0, .int 0, .int 0, .int 0, .int 0, .int 0, .int 0, .ref numbers]))] [.ref h0, .int p0]) (vp_Si (fun r => ((p0 : Int32).toInt = 0) ∧ r = 0 ∨ ((p0 : Int32).toInt ≠ 0) ∧ r = (-1))) 0 0 (fun _ => False) := by
  refine Met.ofW (cc := cX11_fault) (maxL := 2) (ret := (some .int)) (by decide) rfl ?_
  intro p e s m args below meth c s₁ B hml hv
  obtain ⟨rfl, hP, hKN⟩ := hv
  have hx := B.exec
  have hb := B.bytes
  have hr := B.returns
  have hts : ∀ w ∈ TB, w.before _ s = true := fun w h => atoms_spec B.pre w (List.mem_cons_of_mem _ h)
  have hown : s.vm.findClass RX11 = some m.cls := findClass_of_methodNamed B.named
  have hlocks := B.notSynchronized
  have hl := lv_entry ([.ref h0, .int p0]) (n := 2) (Nat.le_of_ble_eq_true rfl)
  rw [lg_entry_eq]
  generalize (lg_sl ([.ref h0, .int p0]) ++ List.replicate (2 - (lg_sl ([.ref h0, .int p0])).length) Slot.unset).toArray = ls at hl ⊢
  have hl : lv_has ls 2 [(0, .ref h0), (1, .int p0)] := hl
  refine lv_iload_n hx hb dX11_fault_0 rfl (lv_at hl 1 rfl) ?_
  refine lv_if_ne (tgt := 12) hx hb dX11_fault_1 (by decide) (fun c_1 => ?_) (fun c_1 => ?_)
  · skip
    have k_2 := tt_ne c_1
    refine lv_iload_n hx hb dX11_fault_12 rfl (lv_at hl 1 rfl) ?_
    refine lv_iconst (v := 1) hx hb dX11_fault_13 (by decide) ?_
    refine lv_icmp_ne (tgt := 27) hx hb dX11_fault_14 (by decide) (fun c_3 => ?_) (fun c_3 => ?_)
    · skip
      have k_4 := tt_ne c_3
      refine lv_iconst (v := (-1)) hx hb dX11_fault_27 (by decide) ?_
      exact W.iret (v := (-1)) hx hb hr (fun t ht hW => ⟨(-1), rfl, (Or.inr ⟨(by have zi_0 : (0 : Int32).toInt = 0 := (by decide); have zi_1 : (1 : Int32).toInt = 1 := (by decide); omega), rfl⟩), ht⟩) (fun _ h => by cases h) dX11_fault_28
    · skip
      have k_5 := tt_eq c_3
      refine lv_aload_n hx hb dX11_fault_17 rfl (lv_at hl 0 rfl) ?_
      refine va_get (D := D) (ci := 11) (v := .ref rd) (C := RX11) (T := TX11) (N := 11) hx hb hts inX11 hown hKN.1 hP 0 rfl rfl 1 (by decide) (hts _ tw_466) (fun _ h9 => h9) rfl dX11_fault_18 ?_
      refine va_get (D := D) (ci := 6) (v := .int (-1)) (C := RX6) (T := TX6) (N := 13) hx hb hts inX6 hown hKN.1 hP 1 rfl rfl 2 (by decide) (hts _ tw_229) (fun _ h9 => h9) rfl dX11_fault_21 ?_
      refine lv_goto (tgt := 28) hx hb dX11_fault_24 (by decide) ?_
      exact W.iret (v := (-1)) hx hb hr (fun t ht hW => ⟨(-1), rfl, (Or.inr ⟨(by have zi_0 : (0 : Int32).toInt = 0 := (by decide); have zi_1 : (1 : Int32).toInt = 1 := (by decide); omega), rfl⟩), ht⟩) (fun _ h => by cases h) dX11_fault_28
  · skip
    have k_6 := tt_eq c_1
    refine lv_aload_n hx hb dX11_fault_4 rfl (lv_at hl 0 rfl) ?_
    refine va_get (D := D) (ci := 11) (v := .ref rd) (C := RX11) (T := TX11) (N := 11) hx hb hts inX11 hown hKN.1 hP 0 rfl rfl 1 (by decide) (hts _ tw_466) (fun _ h9 => h9) rfl dX11_fault_5 ?_
    refine va_get (D := D) (ci := 6) (v := .int 0) (C := RX6) (T := TX6) (N := 13) hx hb hts inX6 hown hKN.1 hP 1 rfl rfl 1 (by decide) (hts _ tw_227) (fun _ h9 => h9) rfl dX11_fault_8 ?_
    exact W.iret (v := 0) hx hb hr (fun t ht hW => ⟨0, rfl, (Or.inl ⟨(by have zi_0 : (0 : Int32).toInt = 0 := (by decide); omega), rfl⟩), ht⟩) (fun _ h => by cases h) dX11_fault_11
set_option maxHeartbeats 4000000 in
set_option maxRecDepth 100000 in
theorem k_X11_count (l : Launch) (D : va_G) (cA : Nat → ClassId) (h0 : Nat) (tp : Nat) (rd : Nat) (g : Nat) (ev : Nat) (im : Nat) (sl : Nat) (co : Nat) (pa : Nat) (sp : Nat) (ba : Nat) (we : Nat) (g_sides : Nat) (g_grips : Nat) (g_wits : Nat) (g_says : Nat) (g_gives0 : Nat) (g_gives1 : Nat) (g_froms : Nat) (g_tos : Nat) (s_sizes : Nat) (s_widths : Nat) (s_numbers : Nat) (t_bytes : Nat) (e_kinds : Nat) (e_whats : Nat) (e_befores : Nat) (p0 : Int32) : Met l yX11_count (Cond.code yX11_count cX11_count 2 (some .int) :: TB) (rmd 4 0 0) (PP D cA [(h0, .inr (11, [.ref tp, .ref rd, .ref g, .ref ev, .ref im, .ref sl, .ref co, .ref pa, .ref sp, .ref ba, .ref we])), (g, .inr (3, [.int 0, .int 0, .int 0, .int 0, .int 0, .int 0, .int 0, .int 0, .ref g_sides, .ref g_grips, .ref g_wits, .ref g_says, .ref g_gives0, .ref g_gives1, .ref g_froms, .ref g_tos])), (sl, .inr (7, [.ref s_sizes, .ref s_widths, .ref s_numbers])), (s_sizes, .inl (cA 1, 4, .inl (fun _ => (-1)))), (tp, .inr (9, [.ref t_bytes, .int 0])), (ev, .inr (2, [.int (-1), .int (-1), .int 0, .int 0, .int 0, .int 0, .int 0, .ref e_kinds, .ref e_whats, .ref e_befores]))] [.ref h0, .int p0]) (vp_Si (fun r => (0 ≤ (p0 : Int32).toInt ∧ (p0 : Int32).toInt ≤ 10) ∧ r = 0 ∨ ((p0 : Int32).toInt < 0 ∨ 10 < (p0 : Int32).toInt) ∧ r = (-1))) 0 0 (fun _ => False) := by
  refine Met.ofW (cc := cX11_count) (maxL := 2) (ret := (some .int)) (by decide) rfl ?_
  intro p e s m args below meth c s₁ B hml hv
  obtain ⟨rfl, hP, hKN⟩ := hv
  have hx := B.exec
  have hb := B.bytes
  have hr := B.returns
  have hts : ∀ w ∈ TB, w.before _ s = true := fun w h => atoms_spec B.pre w (List.mem_cons_of_mem _ h)
  have hown : s.vm.findClass RX11 = some m.cls := findClass_of_methodNamed B.named
  have hlocks := B.notSynchronized
  have hl := lv_entry ([.ref h0, .int p0]) (n := 2) (Nat.le_of_ble_eq_true rfl)
  rw [lg_entry_eq]
  generalize (lg_sl ([.ref h0, .int p0]) ++ List.replicate (2 - (lg_sl ([.ref h0, .int p0])).length) Slot.unset).toArray = ls at hl ⊢
  have hl : lv_has ls 2 [(0, .ref h0), (1, .int p0)] := hl
  refine lv_iload_n hx hb dX11_count_0 rfl (lv_at hl 1 rfl) ?_
  rcases sw_11 p0 with rfl | rfl | rfl | rfl | rfl | rfl | rfl | rfl | rfl | rfl | rfl | c_1
  · skip
    refine lv_tableIn (tgt := 60) hx hb dX11_count_1 (by decide) (by decide) rfl (by decide) ?_
    refine lv_aload_n hx hb dX11_count_60 rfl (lv_at hl 0 rfl) ?_
    refine va_get (D := D) (ci := 11) (v := .ref g) (C := RX11) (T := TX11) (N := 11) hx hb hts inX11 hown hKN.1 hP 0 rfl rfl 2 (by decide) (hts _ tw_467) (fun _ h9 => h9) rfl dX11_count_61 ?_
    refine lv_iconst (v := 0) hx hb dX11_count_64 (by decide) ?_
    refine cpVi (rest := []) ⟨hx, hb, hml, hown, hts⟩ hKN (hP.sub (ws' := [(g, .inr (3, [.int 0, .int 0, .int 0, .int 0, .int 0, .int 0, .int 0, .int 0, .ref g_sides, .ref g_grips, .ref g_wits, .ref g_says, .ref g_gives0, .ref g_gives1, .ref g_froms, .ref g_tos]))]) [1] rfl) (k_X3_farOf l D cA g g_sides g_grips g_wits g_says g_gives0 g_gives1 g_froms g_tos 0) (tb_V tw_754 tw_755 tw_756 tw_104 tw_757) hdX3_farOf ⟨rfl, rfl, Nat.le_of_ble_eq_true rfl, Nat.le_of_ble_eq_true rfl⟩ ⟨Nat.le_of_ble_eq_true rfl, Nat.le_of_ble_eq_true rfl⟩ rfl rfl rfl hl.1 rfl (Nat.le_of_ble_eq_true rfl) dX11_count_65 (fun r_2 hr_2 => ?_)
    obtain rfl : r_2 = 0 := hr_2
    exact W.iret (v := 0) hx hb hr (fun t ht hW => ⟨0, rfl, (Or.inl ⟨(by have zi_0 : (0 : Int32).toInt = 0 := (by decide); omega), rfl⟩), ht⟩) (fun _ h => by cases h) dX11_count_68
  · skip
    refine lv_tableIn (tgt := 69) hx hb dX11_count_1 (by decide) (by decide) rfl (by decide) ?_
    refine lv_aload_n hx hb dX11_count_69 rfl (lv_at hl 0 rfl) ?_
    refine va_get (D := D) (ci := 11) (v := .ref g) (C := RX11) (T := TX11) (N := 11) hx hb hts inX11 hown hKN.1 hP 0 rfl rfl 2 (by decide) (hts _ tw_467) (fun _ h9 => h9) rfl dX11_count_70 ?_
    refine lv_iconst (v := 1) hx hb dX11_count_73 (by decide) ?_
    refine cpVi (rest := []) ⟨hx, hb, hml, hown, hts⟩ hKN (hP.sub (ws' := [(g, .inr (3, [.int 0, .int 0, .int 0, .int 0, .int 0, .int 0, .int 0, .int 0, .ref g_sides, .ref g_grips, .ref g_wits, .ref g_says, .ref g_gives0, .ref g_gives1, .ref g_froms, .ref g_tos]))]) [1] rfl) (k_X3_farOf l D cA g g_sides g_grips g_wits g_says g_gives0 g_gives1 g_froms g_tos 1) (tb_V tw_754 tw_755 tw_756 tw_104 tw_757) hdX3_farOf ⟨rfl, rfl, Nat.le_of_ble_eq_true rfl, Nat.le_of_ble_eq_true rfl⟩ ⟨Nat.le_of_ble_eq_true rfl, Nat.le_of_ble_eq_true rfl⟩ rfl rfl rfl hl.1 rfl (Nat.le_of_ble_eq_true rfl) dX11_count_74 (fun r_3 hr_3 => ?_)
    obtain rfl : r_3 = 0 := hr_3
    exact W.iret (v := 0) hx hb hr (fun t ht hW => ⟨0, rfl, (Or.inl ⟨(by have zi_1 : (1 : Int32).toInt = 1 := (by decide); omega), rfl⟩), ht⟩) (fun _ h => by cases h) dX11_count_77
  · skip
    refine lv_tableIn (tgt := 78) hx hb dX11_count_1 (by decide) (by decide) rfl (by decide) ?_
    refine lv_aload_n hx hb dX11_count_78 rfl (lv_at hl 0 rfl) ?_
    refine va_get (D := D) (ci := 11) (v := .ref g) (C := RX11) (T := TX11) (N := 11) hx hb hts inX11 hown hKN.1 hP 0 rfl rfl 2 (by decide) (hts _ tw_467) (fun _ h9 => h9) rfl dX11_count_79 ?_
    refine va_get (D := D) (ci := 3) (v := .int 0) (C := RX3) (T := TX3) (N := 16) hx hb hts inX3 hown hKN.1 hP 1 rfl rfl 0 (by decide) (hts _ tw_160) (fun _ h9 => h9) rfl dX11_count_82 ?_
    exact W.iret (v := 0) hx hb hr (fun t ht hW => ⟨0, rfl, (Or.inl ⟨(by have zi_2 : (2 : Int32).toInt = 2 := (by decide); omega), rfl⟩), ht⟩) (fun _ h => by cases h) dX11_count_85
  · skip
    refine lv_tableIn (tgt := 86) hx hb dX11_count_1 (by decide) (by decide) rfl (by decide) ?_
    refine lv_aload_n hx hb dX11_count_86 rfl (lv_at hl 0 rfl) ?_
    refine va_get (D := D) (ci := 11) (v := .ref g) (C := RX11) (T := TX11) (N := 11) hx hb hts inX11 hown hKN.1 hP 0 rfl rfl 2 (by decide) (hts _ tw_467) (fun _ h9 => h9) rfl dX11_count_87 ?_
    refine va_get (D := D) (ci := 3) (v := .int 0) (C := RX3) (T := TX3) (N := 16) hx hb hts inX3 hown hKN.1 hP 1 rfl rfl 1 (by decide) (hts _ tw_163) (fun _ h9 => h9) rfl dX11_count_90 ?_
    exact W.iret (v := 0) hx hb hr (fun t ht hW => ⟨0, rfl, (Or.inl ⟨(by have zi_3 : (3 : Int32).toInt = 3 := (by decide); omega), rfl⟩), ht⟩) (fun _ h => by cases h) dX11_count_93
  · skip
    refine lv_tableIn (tgt := 94) hx hb dX11_count_1 (by decide) (by decide) rfl (by decide) ?_
    refine lv_aload_n hx hb dX11_count_94 rfl (lv_at hl 0 rfl) ?_
    refine va_get (D := D) (ci := 11) (v := .ref g) (C := RX11) (T := TX11) (N := 11) hx hb hts inX11 hown hKN.1 hP 0 rfl rfl 2 (by decide) (hts _ tw_467) (fun _ h9 => h9) rfl dX11_count_95 ?_
    refine va_get (D := D) (ci := 3) (v := .int 0) (C := RX3) (T := TX3) (N := 16) hx hb hts inX3 hown hKN.1 hP 1 rfl rfl 3 (by decide) (hts _ tw_171) (fun _ h9 => h9) rfl dX11_count_98 ?_
    exact W.iret (v := 0) hx hb hr (fun t ht hW => ⟨0, rfl, (Or.inl ⟨(by have zi_4 : (4 : Int32).toInt = 4 := (by decide); omega), rfl⟩), ht⟩) (fun _ h => by cases h) dX11_count_101
  · skip
    refine lv_tableIn (tgt := 102) hx hb dX11_count_1 (by decide) (by decide) rfl (by decide) ?_
    refine lv_aload_n hx hb dX11_count_102 rfl (lv_at hl 0 rfl) ?_
    refine va_get (D := D) (ci := 11) (v := .ref g) (C := RX11) (T := TX11) (N := 11) hx hb hts inX11 hown hKN.1 hP 0 rfl rfl 2 (by decide) (hts _ tw_467) (fun _ h9 => h9) rfl dX11_count_103 ?_
    refine va_get (D := D) (ci := 3) (v := .int 0) (C := RX3) (T := TX3) (N := 16) hx hb hts inX3 hown hKN.1 hP 1 rfl rfl 4 (by decide) (hts _ tw_176) (fun _ h9 => h9) rfl dX11_count_106 ?_
    exact W.iret (v := 0) hx hb hr (fun t ht hW => ⟨0, rfl, (Or.inl ⟨(by have zi_5 : (5 : Int32).toInt = 5 := (by decide); omega), rfl⟩), ht⟩) (fun _ h => by cases h) dX11_count_109
  · skip
    refine lv_tableIn (tgt := 110) hx hb dX11_count_1 (by decide) (by decide) rfl (by decide) ?_
    refine lv_aload_n hx hb dX11_count_110 rfl (lv_at hl 0 rfl) ?_
    refine va_get (D := D) (ci := 11) (v := .ref g) (C := RX11) (T := TX11) (N := 11) hx hb hts inX11 hown hKN.1 hP 0 rfl rfl 2 (by decide) (hts _ tw_467) (fun _ h9 => h9) rfl dX11_count_111 ?_
    refine va_get (D := D) (ci := 3) (v := .int 0) (C := RX3) (T := TX3) (N := 16) hx hb hts inX3 hown hKN.1 hP 1 rfl rfl 5 (by decide) (hts _ tw_179) (fun _ h9 => h9) rfl dX11_count_114 ?_
    exact W.iret (v := 0) hx hb hr (fun t ht hW => ⟨0, rfl, (Or.inl ⟨(by have zi_6 : (6 : Int32).toInt = 6 := (by decide); omega), rfl⟩), ht⟩) (fun _ h => by cases h) dX11_count_117
  · skip
    refine lv_tableIn (tgt := 118) hx hb dX11_count_1 (by decide) (by decide) rfl (by decide) ?_
    refine lv_aload_n hx hb dX11_count_118 rfl (lv_at hl 0 rfl) ?_
    refine va_get (D := D) (ci := 11) (v := .ref ev) (C := RX11) (T := TX11) (N := 11) hx hb hts inX11 hown hKN.1 hP 0 rfl rfl 3 (by decide) (hts _ tw_468) (fun _ h9 => h9) rfl dX11_count_119 ?_
    refine va_get (D := D) (ci := 2) (v := .int 0) (C := RX2) (T := TX2) (N := 10) hx hb hts inX2 hown hKN.1 hP 5 rfl rfl 4 (by decide) (hts _ tw_284) (fun _ h9 => h9) rfl dX11_count_122 ?_
    exact W.iret (v := 0) hx hb hr (fun t ht hW => ⟨0, rfl, (Or.inl ⟨(by have zi_7 : (7 : Int32).toInt = 7 := (by decide); omega), rfl⟩), ht⟩) (fun _ h => by cases h) dX11_count_125
  · skip
    refine lv_tableIn (tgt := 126) hx hb dX11_count_1 (by decide) (by decide) rfl (by decide) ?_
    refine lv_aload_n hx hb dX11_count_126 rfl (lv_at hl 0 rfl) ?_
    refine va_get (D := D) (ci := 11) (v := .ref g) (C := RX11) (T := TX11) (N := 11) hx hb hts inX11 hown hKN.1 hP 0 rfl rfl 2 (by decide) (hts _ tw_467) (fun _ h9 => h9) rfl dX11_count_127 ?_
    refine va_get (D := D) (ci := 3) (v := .int 0) (C := RX3) (T := TX3) (N := 16) hx hb hts inX3 hown hKN.1 hP 1 rfl rfl 2 (by decide) (hts _ tw_165) (fun _ h9 => h9) rfl dX11_count_130 ?_
    exact W.iret (v := 0) hx hb hr (fun t ht hW => ⟨0, rfl, (Or.inl ⟨(by have zi_8 : (8 : Int32).toInt = 8 := (by decide); omega), rfl⟩), ht⟩) (fun _ h => by cases h) dX11_count_133
  · skip
    refine lv_tableIn (tgt := 134) hx hb dX11_count_1 (by decide) (by decide) rfl (by decide) ?_
    refine lv_aload_n hx hb dX11_count_134 rfl (lv_at hl 0 rfl) ?_
    refine va_get (D := D) (ci := 11) (v := .ref tp) (C := RX11) (T := TX11) (N := 11) hx hb hts inX11 hown hKN.1 hP 0 rfl rfl 0 (by decide) (hts _ tw_465) (fun _ h9 => h9) rfl dX11_count_135 ?_
    refine va_get (D := D) (ci := 9) (v := .int 0) (C := RX9) (T := TX9) (N := 2) hx hb hts inX9 hown hKN.1 hP 4 rfl rfl 1 (by decide) (hts _ tw_138) (fun _ h9 => h9) rfl dX11_count_138 ?_
    exact W.iret (v := 0) hx hb hr (fun t ht hW => ⟨0, rfl, (Or.inl ⟨(by have zi_9 : (9 : Int32).toInt = 9 := (by decide); omega), rfl⟩), ht⟩) (fun _ h => by cases h) dX11_count_141
  · skip
    refine lv_tableIn (tgt := 142) hx hb dX11_count_1 (by decide) (by decide) rfl (by decide) ?_
    refine lv_aload_n hx hb dX11_count_142 rfl (lv_at hl 0 rfl) ?_
    refine va_get (D := D) (ci := 11) (v := .ref sl) (C := RX11) (T := TX11) (N := 11) hx hb hts inX11 hown hKN.1 hP 0 rfl rfl 5 (by decide) (hts _ tw_470) (fun _ h9 => h9) rfl dX11_count_143 ?_
    refine cpVi (rest := []) ⟨hx, hb, hml, hown, hts⟩ hKN (hP.sub (ws' := [(sl, .inr (7, [.ref s_sizes, .ref s_widths, .ref s_numbers])), (s_sizes, .inl (cA 1, 4, .inl (fun _ => (-1))))]) [2, 3] rfl) (k_X7_withRow l D cA sl s_sizes s_widths s_numbers) (tb_V tw_1363 tw_1364 tw_1365 tw_107 tw_1366) hdX7_withRow ⟨rfl, rfl, Nat.le_of_ble_eq_true rfl, Nat.le_of_ble_eq_true rfl⟩ ⟨Nat.le_of_ble_eq_true rfl, Nat.le_of_ble_eq_true rfl⟩ rfl rfl rfl hl.1 rfl (Nat.le_of_ble_eq_true rfl) dX11_count_146 (fun r_4 hr_4 => ?_)
    obtain rfl : r_4 = 0 := hr_4
    exact W.iret (v := 0) hx hb hr (fun t ht hW => ⟨0, rfl, (Or.inl ⟨(by have zi_10 : (10 : Int32).toInt = 10 := (by decide); omega), rfl⟩), ht⟩) (fun _ h => by cases h) dX11_count_149
  · skip
    refine lv_tableOut (tgt := 150) hx hb dX11_count_1 c_1 (by decide) ?_
    refine lv_iconst (v := (-1)) hx hb dX11_count_150 (by decide) ?_
    exact W.iret (v := (-1)) hx hb hr (fun t ht hW => ⟨(-1), rfl, (Or.inr ⟨(by omega), rfl⟩), ht⟩) (fun _ h => by cases h) dX11_count_151
set_option maxHeartbeats 4000000 in
set_option maxRecDepth 100000 in
theorem k_X11_back (l : Launch) (D : va_G) (cA : Nat → ClassId) (h0 : Nat) (tp : Nat) (rd : Nat) (g : Nat) (ev : Nat) (im : Nat) (sl : Nat) (co : Nat) (pa : Nat) (sp : Nat) (ba : Nat) (we : Nat) (i0 : Nat) (i1 : Nat) (i2 : Nat) (i0_g : Nat) (i0_e : Nat) (i1_g : Nat) (i1_e : Nat) (i2_g : Nat) (i2_e : Nat) (p0 : Int32) : Met l yX11_back (Cond.code yX11_back cX11_back 2 (some .int) :: TB) (rmd 1 0 0) (PP D cA [(h0, .inr (11, [.ref tp, .ref rd, .ref g, .ref ev, .ref im, .ref sl, .ref co, .ref pa, .ref sp, .ref ba, .ref we])), (im, .inl (cA 4, 3, .inr (.inr (.inr (.inr (selO [i0, i1, i2])))))), (i0, .inr (4, [.ref i0_g, .ref i0_e, .int 0])), (i1, .inr (4, [.ref i1_g, .ref i1_e, .int 0])), (i2, .inr (4, [.ref i2_g, .ref i2_e, .int 0]))] [.ref h0, .int p0]) (vp_Si (fun r => (0 ≤ (p0 : Int32).toInt ∧ (p0 : Int32).toInt ≤ 2) ∧ r = (-6) ∨ ((p0 : Int32).toInt < 0 ∨ 2 < (p0 : Int32).toInt) ∧ r = (-2))) 0 0 (fun _ => False) := by
  refine Met.ofW (cc := cX11_back) (maxL := 2) (ret := (some .int)) (by decide) rfl ?_
  intro p e s m args below meth c s₁ B hml hv
  obtain ⟨rfl, hP, hKN⟩ := hv
  have hx := B.exec
  have hb := B.bytes
  have hr := B.returns
  have hts : ∀ w ∈ TB, w.before _ s = true := fun w h => atoms_spec B.pre w (List.mem_cons_of_mem _ h)
  have hown : s.vm.findClass RX11 = some m.cls := findClass_of_methodNamed B.named
  have hlocks := B.notSynchronized
  have hl := lv_entry ([.ref h0, .int p0]) (n := 2) (Nat.le_of_ble_eq_true rfl)
  rw [lg_entry_eq]
  generalize (lg_sl ([.ref h0, .int p0]) ++ List.replicate (2 - (lg_sl ([.ref h0, .int p0])).length) Slot.unset).toArray = ls at hl ⊢
  have hl : lv_has ls 2 [(0, .ref h0), (1, .int p0)] := hl
  refine lv_iload_n hx hb dX11_back_0 rfl (lv_at hl 1 rfl) ?_
  refine lv_iconst (v := 0) hx hb dX11_back_1 (by decide) ?_
  refine lv_iconst (v := 2) hx hb dX11_back_2 (by decide) ?_
  refine cpSi (rest := []) ⟨hx, hb, hml, hown, hts⟩ hKN (hP.sub (ws' := []) [] rfl) (k_X11_isWithin l D cA p0 0 2) (tb_S tw_515 tw_516 tw_101 tw_517) hdX11_isWithin ⟨rfl, rfl, Nat.le_of_ble_eq_true rfl, Nat.le_of_ble_eq_true rfl⟩ ⟨Nat.le_of_ble_eq_true rfl, Nat.le_of_ble_eq_true rfl⟩ rfl hl.1 rfl (Nat.le_of_ble_eq_true rfl) dX11_back_3 (fun r_1 hr_1 => ?_)
  rcases hr_1 with ⟨k_1_0, rfl⟩ | ⟨k_1_1, rfl⟩
  · skip
    rcases rng3 (x := p0) (by have zi_0 : (0 : Int32).toInt = 0 := (by decide); have zi_2 : (2 : Int32).toInt = 2 := (by decide); omega) with rfl | rfl | rfl
    · skip
      refine lv_if_ne (tgt := 12) hx hb dX11_back_6 (by decide) (fun c_2 => ?_) (fun c_2 => absurd c_2 (by decide))
      refine lv_aload_n hx hb dX11_back_12 rfl (lv_at hl 0 rfl) ?_
      refine va_get (D := D) (ci := 11) (v := .ref im) (C := RX11) (T := TX11) (N := 11) hx hb hts inX11 hown hKN.1 hP 0 rfl rfl 4 (by decide) (hts _ tw_469) (fun _ h9 => h9) rfl dX11_back_13 ?_
      refine lv_iload_n hx hb dX11_back_16 rfl (lv_at hl 1 rfl) ?_
      refine va_aldq hx hb hKN.1 hP 1 4 rfl rfl (by unfold vp_in; decide) dX11_back_17 ?_
      refine W.eq (g2 := F0 m 18 ls [.ref i0]) rfl ?_
      refine va_get (D := D) (ci := 4) (v := .int 0) (C := RX4) (T := TX4) (N := 3) hx hb hts inX4 hown hKN.1 hP 2 rfl rfl 2 (by decide) (hts _ tw_326) (fun _ h9 => h9) rfl dX11_back_18 ?_
      refine lv_if_ne (tgt := 27) hx hb dX11_back_21 (by decide) (fun c_3 => absurd (by decide) c_3) (fun c_3 => ?_)
      refine lv_bipush (v := (-6)) hx hb dX11_back_24 (by decide) ?_
      exact W.iret (v := (-6)) hx hb hr (fun t ht hW => ⟨(-6), rfl, (Or.inl ⟨(by have zi_0 : (0 : Int32).toInt = 0 := (by decide); have zi_2 : (2 : Int32).toInt = 2 := (by decide); omega), rfl⟩), ht⟩) (fun _ h => by cases h) dX11_back_26
    · skip
      refine lv_if_ne (tgt := 12) hx hb dX11_back_6 (by decide) (fun c_4 => ?_) (fun c_4 => absurd c_4 (by decide))
      refine lv_aload_n hx hb dX11_back_12 rfl (lv_at hl 0 rfl) ?_
      refine va_get (D := D) (ci := 11) (v := .ref im) (C := RX11) (T := TX11) (N := 11) hx hb hts inX11 hown hKN.1 hP 0 rfl rfl 4 (by decide) (hts _ tw_469) (fun _ h9 => h9) rfl dX11_back_13 ?_
      refine lv_iload_n hx hb dX11_back_16 rfl (lv_at hl 1 rfl) ?_
      refine va_aldq hx hb hKN.1 hP 1 4 rfl rfl (by unfold vp_in; decide) dX11_back_17 ?_
      refine W.eq (g2 := F0 m 18 ls [.ref i1]) rfl ?_
      refine va_get (D := D) (ci := 4) (v := .int 0) (C := RX4) (T := TX4) (N := 3) hx hb hts inX4 hown hKN.1 hP 3 rfl rfl 2 (by decide) (hts _ tw_326) (fun _ h9 => h9) rfl dX11_back_18 ?_
      refine lv_if_ne (tgt := 27) hx hb dX11_back_21 (by decide) (fun c_5 => absurd (by decide) c_5) (fun c_5 => ?_)
      refine lv_bipush (v := (-6)) hx hb dX11_back_24 (by decide) ?_
      exact W.iret (v := (-6)) hx hb hr (fun t ht hW => ⟨(-6), rfl, (Or.inl ⟨(by have zi_0 : (0 : Int32).toInt = 0 := (by decide); have zi_1 : (1 : Int32).toInt = 1 := (by decide); have zi_2 : (2 : Int32).toInt = 2 := (by decide); omega), rfl⟩), ht⟩) (fun _ h => by cases h) dX11_back_26
    · skip
      refine lv_if_ne (tgt := 12) hx hb dX11_back_6 (by decide) (fun c_6 => ?_) (fun c_6 => absurd c_6 (by decide))
      refine lv_aload_n hx hb dX11_back_12 rfl (lv_at hl 0 rfl) ?_
      refine va_get (D := D) (ci := 11) (v := .ref im) (C := RX11) (T := TX11) (N := 11) hx hb hts inX11 hown hKN.1 hP 0 rfl rfl 4 (by decide) (hts _ tw_469) (fun _ h9 => h9) rfl dX11_back_13 ?_
      refine lv_iload_n hx hb dX11_back_16 rfl (lv_at hl 1 rfl) ?_
      refine va_aldq hx hb hKN.1 hP 1 4 rfl rfl (by unfold vp_in; decide) dX11_back_17 ?_
      refine W.eq (g2 := F0 m 18 ls [.ref i2]) rfl ?_
      refine va_get (D := D) (ci := 4) (v := .int 0) (C := RX4) (T := TX4) (N := 3) hx hb hts inX4 hown hKN.1 hP 4 rfl rfl 2 (by decide) (hts _ tw_326) (fun _ h9 => h9) rfl dX11_back_18 ?_
      refine lv_if_ne (tgt := 27) hx hb dX11_back_21 (by decide) (fun c_7 => absurd (by decide) c_7) (fun c_7 => ?_)
      refine lv_bipush (v := (-6)) hx hb dX11_back_24 (by decide) ?_
      exact W.iret (v := (-6)) hx hb hr (fun t ht hW => ⟨(-6), rfl, (Or.inl ⟨(by have zi_0 : (0 : Int32).toInt = 0 := (by decide); have zi_2 : (2 : Int32).toInt = 2 := (by decide); omega), rfl⟩), ht⟩) (fun _ h => by cases h) dX11_back_26
  · skip
    refine lv_if_ne (tgt := 12) hx hb dX11_back_6 (by decide) (fun c_8 => absurd (by decide) c_8) (fun c_8 => ?_)
    refine lv_bipush (v := (-2)) hx hb dX11_back_9 (by decide) ?_
    exact W.iret (v := (-2)) hx hb hr (fun t ht hW => ⟨(-2), rfl, (Or.inr ⟨(by have zi_0 : (0 : Int32).toInt = 0 := (by decide); have zi_2 : (2 : Int32).toInt = 2 := (by decide); omega), rfl⟩), ht⟩) (fun _ h => by cases h) dX11_back_11
set_option maxHeartbeats 4000000 in
set_option maxRecDepth 100000 in
theorem k_X11_write (l : Launch) (D : va_G) (cA : Nat → ClassId) (h0 : Nat) (tp : Nat) (rd : Nat) (g : Nat) (ev : Nat) (im : Nat) (sl : Nat) (co : Nat) (pa : Nat) (sp : Nat) (ba : Nat) (we : Nat) (s_sizes : Nat) (s_widths : Nat) (s_numbers : Nat) (p0 : Int32) (p1 : Int32) (p2 : Int64) : Met l yX11_write (Cond.code yX11_write cX11_write 5 (some .int) :: TB) (rmd 3 0 0) (PP D cA [(h0, .inr (11, [.ref tp, .ref rd, .ref g, .ref ev, .ref im, .ref sl, .ref co, .ref pa, .ref sp, .ref ba, .ref we])), (sl, .inr (7, [.ref s_sizes, .ref s_widths, .ref s_numbers])), (s_sizes, .inl (cA 1, 4, .inl (fun _ => (-1))))] [.ref h0, .int p0, .int p1, .long p2]) (vp_Si (fun r => (0 ≤ (p0 : Int32).toInt ∧ (p0 : Int32).toInt < 4) ∧ r = (-6) ∨ ((p0 : Int32).toInt < 0 ∨ 4 ≤ (p0 : Int32).toInt) ∧ r = (-2))) 0 0 (fun _ => False) := by
  refine Met.ofW (cc := cX11_write) (maxL := 5) (ret := (some .int)) (by decide) rfl ?_
  intro p e s m args below meth c s₁ B hml hv
  obtain ⟨rfl, hP, hKN⟩ := hv
  have hx := B.exec
  have hb := B.bytes
  have hr := B.returns
  have hts : ∀ w ∈ TB, w.before _ s = true := fun w h => atoms_spec B.pre w (List.mem_cons_of_mem _ h)
  have hown : s.vm.findClass RX11 = some m.cls := findClass_of_methodNamed B.named
  have hlocks := B.notSynchronized
  have hl := lv_entry ([.ref h0, .int p0, .int p1, .long p2]) (n := 5) (Nat.le_of_ble_eq_true rfl)
  rw [lg_entry_eq]
  generalize (lg_sl ([.ref h0, .int p0, .int p1, .long p2]) ++ List.replicate (5 - (lg_sl ([.ref h0, .int p0, .int p1, .long p2])).length) Slot.unset).toArray = ls at hl ⊢
  have hl : lv_has ls 5 [(0, .ref h0), (1, .int p0), (2, .int p1), (3, .long p2)] := hl
  refine lv_aload_n hx hb dX11_write_0 rfl (lv_at hl 0 rfl) ?_
  refine va_get (D := D) (ci := 11) (v := .ref sl) (C := RX11) (T := TX11) (N := 11) hx hb hts inX11 hown hKN.1 hP 0 rfl rfl 5 (by decide) (hts _ tw_470) (fun _ h9 => h9) rfl dX11_write_1 ?_
  refine lv_iload_n hx hb dX11_write_4 rfl (lv_at hl 1 rfl) ?_
  refine cpVi (rest := []) ⟨hx, hb, hml, hown, hts⟩ hKN (hP.sub (ws' := [(sl, .inr (7, [.ref s_sizes, .ref s_widths, .ref s_numbers]))]) [1] rfl) (k_X7_has l D cA sl s_sizes s_widths s_numbers p0) (tb_V tw_938 tw_939 tw_940 tw_107 tw_941) hdX7_has ⟨rfl, rfl, Nat.le_of_ble_eq_true rfl, Nat.le_of_ble_eq_true rfl⟩ ⟨Nat.le_of_ble_eq_true rfl, Nat.le_of_ble_eq_true rfl⟩ rfl rfl rfl hl.1 rfl (Nat.le_of_ble_eq_true rfl) dX11_write_5 (fun r_1 hr_1 => ?_)
  rcases hr_1 with ⟨k_1_0, rfl⟩ | ⟨k_1_1, rfl⟩
  · skip
    refine lv_if_ne (tgt := 14) hx hb dX11_write_8 (by decide) (fun c_2 => ?_) (fun c_2 => absurd c_2 (by decide))
    refine lv_aload_n hx hb dX11_write_14 rfl (lv_at hl 0 rfl) ?_
    refine va_get (D := D) (ci := 11) (v := .ref sl) (C := RX11) (T := TX11) (N := 11) hx hb hts inX11 hown hKN.1 hP 0 rfl rfl 5 (by decide) (hts _ tw_470) (fun _ h9 => h9) rfl dX11_write_15 ?_
    refine lv_iload_n hx hb dX11_write_18 rfl (lv_at hl 1 rfl) ?_
    refine cpVi (rest := []) ⟨hx, hb, hml, hown, hts⟩ hKN (hP.sub (ws' := [(sl, .inr (7, [.ref s_sizes, .ref s_widths, .ref s_numbers])), (s_sizes, .inl (cA 1, 4, .inl (fun _ => (-1))))]) [1, 2] rfl) (k_X7_isBare l D cA sl s_sizes s_widths s_numbers p0) (tb_V tw_942 tw_943 tw_944 tw_107 tw_945) hdX7_isBare ⟨rfl, rfl, Nat.le_of_ble_eq_true rfl, Nat.le_of_ble_eq_true rfl⟩ ⟨Nat.le_of_ble_eq_true rfl, Nat.le_of_ble_eq_true rfl⟩ rfl rfl rfl hl.1 rfl (Nat.le_of_ble_eq_true rfl) dX11_write_19 (fun r_3 hr_3 => ?_)
    obtain rfl : r_3 = 1 := hr_3
    refine lv_if_eq (tgt := 28) hx hb dX11_write_22 (by decide) (fun c_4 => absurd c_4 (by decide)) (fun c_4 => ?_)
    refine lv_bipush (v := (-6)) hx hb dX11_write_25 (by decide) ?_
    exact W.iret (v := (-6)) hx hb hr (fun t ht hW => ⟨(-6), rfl, (Or.inl ⟨(by omega), rfl⟩), ht⟩) (fun _ h => by cases h) dX11_write_27
  · skip
    refine lv_if_ne (tgt := 14) hx hb dX11_write_8 (by decide) (fun c_5 => absurd (by decide) c_5) (fun c_5 => ?_)
    refine lv_bipush (v := (-2)) hx hb dX11_write_11 (by decide) ?_
    exact W.iret (v := (-2)) hx hb hr (fun t ht hW => ⟨(-2), rfl, (Or.inr ⟨(by omega), rfl⟩), ht⟩) (fun _ h => by cases h) dX11_write_13
set_option maxHeartbeats 4000000 in
set_option maxRecDepth 100000 in
theorem k_X11_paste (l : Launch) (D : va_G) (cA : Nat → ClassId) (h0 : Nat) (tp : Nat) (rd : Nat) (g : Nat) (ev : Nat) (im : Nat) (sl : Nat) (co : Nat) (pa : Nat) (sp : Nat) (ba : Nat) (we : Nat) (s_sizes : Nat) (s_widths : Nat) (s_numbers : Nat) (p0 : Int32) (p1 : Int32) (p2 : Int32) (p3 : Int32) (p4 : Int32) : Met l yX11_paste (Cond.code yX11_paste cX11_paste 6 (some .int) :: TB) (rmd 3 0 0) (PP D cA [(h0, .inr (11, [.ref tp, .ref rd, .ref g, .ref ev, .ref im, .ref sl, .ref co, .ref pa, .ref sp, .ref ba, .ref we])), (sl, .inr (7, [.ref s_sizes, .ref s_widths, .ref s_numbers])), (s_sizes, .inl (cA 1, 4, .inl (fun _ => (-1))))] [.ref h0, .int p0, .int p1, .int p2, .int p3, .int p4]) (vp_Si (fun r => (0 ≤ (p0 : Int32).toInt ∧ (p0 : Int32).toInt < 4 ∧ 0 ≤ (p2 : Int32).toInt ∧ (p2 : Int32).toInt < 4) ∧ r = (-6) ∨ ((p0 : Int32).toInt < 0 ∨ 4 ≤ (p0 : Int32).toInt ∨ (p2 : Int32).toInt < 0 ∨ 4 ≤ (p2 : Int32).toInt) ∧ r = (-2))) 0 0 (fun _ => False) := by
  refine Met.ofW (cc := cX11_paste) (maxL := 6) (ret := (some .int)) (by decide) rfl ?_
  intro p e s m args below meth c s₁ B hml hv
  obtain ⟨rfl, hP, hKN⟩ := hv
  have hx := B.exec
  have hb := B.bytes
  have hr := B.returns
  have hts : ∀ w ∈ TB, w.before _ s = true := fun w h => atoms_spec B.pre w (List.mem_cons_of_mem _ h)
  have hown : s.vm.findClass RX11 = some m.cls := findClass_of_methodNamed B.named
  have hlocks := B.notSynchronized
  have hl := lv_entry ([.ref h0, .int p0, .int p1, .int p2, .int p3, .int p4]) (n := 6) (Nat.le_of_ble_eq_true rfl)
  rw [lg_entry_eq]
  generalize (lg_sl ([.ref h0, .int p0, .int p1, .int p2, .int p3, .int p4]) ++ List.replicate (6 - (lg_sl ([.ref h0, .int p0, .int p1, .int p2, .int p3, .int p4])).length) Slot.unset).toArray = ls at hl ⊢
  have hl : lv_has ls 6 [(0, .ref h0), (1, .int p0), (2, .int p1), (3, .int p2), (4, .int p3), (5, .int p4)] := hl
  refine lv_aload_n hx hb dX11_paste_0 rfl (lv_at hl 0 rfl) ?_
  refine va_get (D := D) (ci := 11) (v := .ref sl) (C := RX11) (T := TX11) (N := 11) hx hb hts inX11 hown hKN.1 hP 0 rfl rfl 5 (by decide) (hts _ tw_470) (fun _ h9 => h9) rfl dX11_paste_1 ?_
  refine lv_iload_n hx hb dX11_paste_4 rfl (lv_at hl 1 rfl) ?_
  refine cpVi (rest := []) ⟨hx, hb, hml, hown, hts⟩ hKN (hP.sub (ws' := [(sl, .inr (7, [.ref s_sizes, .ref s_widths, .ref s_numbers]))]) [1] rfl) (k_X7_has l D cA sl s_sizes s_widths s_numbers p0) (tb_V tw_938 tw_939 tw_940 tw_107 tw_941) hdX7_has ⟨rfl, rfl, Nat.le_of_ble_eq_true rfl, Nat.le_of_ble_eq_true rfl⟩ ⟨Nat.le_of_ble_eq_true rfl, Nat.le_of_ble_eq_true rfl⟩ rfl rfl rfl hl.1 rfl (Nat.le_of_ble_eq_true rfl) dX11_paste_5 (fun r_1 hr_1 => ?_)
  rcases hr_1 with ⟨k_1_0, rfl⟩ | ⟨k_1_1, rfl⟩
  · skip
    refine lv_if_eq (tgt := 22) hx hb dX11_paste_8 (by decide) (fun c_2 => absurd c_2 (by decide)) (fun c_2 => ?_)
    refine lv_aload_n hx hb dX11_paste_11 rfl (lv_at hl 0 rfl) ?_
    refine va_get (D := D) (ci := 11) (v := .ref sl) (C := RX11) (T := TX11) (N := 11) hx hb hts inX11 hown hKN.1 hP 0 rfl rfl 5 (by decide) (hts _ tw_470) (fun _ h9 => h9) rfl dX11_paste_12 ?_
    refine lv_iload_n hx hb dX11_paste_15 rfl (lv_at hl 3 rfl) ?_
    refine cpVi (rest := []) ⟨hx, hb, hml, hown, hts⟩ hKN (hP.sub (ws' := [(sl, .inr (7, [.ref s_sizes, .ref s_widths, .ref s_numbers]))]) [1] rfl) (k_X7_has l D cA sl s_sizes s_widths s_numbers p2) (tb_V tw_938 tw_939 tw_940 tw_107 tw_941) hdX7_has ⟨rfl, rfl, Nat.le_of_ble_eq_true rfl, Nat.le_of_ble_eq_true rfl⟩ ⟨Nat.le_of_ble_eq_true rfl, Nat.le_of_ble_eq_true rfl⟩ rfl rfl rfl hl.1 rfl (Nat.le_of_ble_eq_true rfl) dX11_paste_16 (fun r_3 hr_3 => ?_)
    rcases hr_3 with ⟨k_3_0, rfl⟩ | ⟨k_3_1, rfl⟩
    · skip
      refine lv_if_ne (tgt := 25) hx hb dX11_paste_19 (by decide) (fun c_4 => ?_) (fun c_4 => absurd c_4 (by decide))
      refine lv_aload_n hx hb dX11_paste_25 rfl (lv_at hl 0 rfl) ?_
      refine va_get (D := D) (ci := 11) (v := .ref sl) (C := RX11) (T := TX11) (N := 11) hx hb hts inX11 hown hKN.1 hP 0 rfl rfl 5 (by decide) (hts _ tw_470) (fun _ h9 => h9) rfl dX11_paste_26 ?_
      refine lv_iload_n hx hb dX11_paste_29 rfl (lv_at hl 1 rfl) ?_
      refine cpVi (rest := []) ⟨hx, hb, hml, hown, hts⟩ hKN (hP.sub (ws' := [(sl, .inr (7, [.ref s_sizes, .ref s_widths, .ref s_numbers])), (s_sizes, .inl (cA 1, 4, .inl (fun _ => (-1))))]) [1, 2] rfl) (k_X7_isBare l D cA sl s_sizes s_widths s_numbers p0) (tb_V tw_942 tw_943 tw_944 tw_107 tw_945) hdX7_isBare ⟨rfl, rfl, Nat.le_of_ble_eq_true rfl, Nat.le_of_ble_eq_true rfl⟩ ⟨Nat.le_of_ble_eq_true rfl, Nat.le_of_ble_eq_true rfl⟩ rfl rfl rfl hl.1 rfl (Nat.le_of_ble_eq_true rfl) dX11_paste_30 (fun r_5 hr_5 => ?_)
      obtain rfl : r_5 = 1 := hr_5
      refine lv_if_ne (tgt := 47) hx hb dX11_paste_33 (by decide) (fun c_6 => ?_) (fun c_6 => absurd c_6 (by decide))
      refine lv_bipush (v := (-6)) hx hb dX11_paste_47 (by decide) ?_
      exact W.iret (v := (-6)) hx hb hr (fun t ht hW => ⟨(-6), rfl, (Or.inl ⟨(by omega), rfl⟩), ht⟩) (fun _ h => by cases h) dX11_paste_49
    · skip
      refine lv_if_ne (tgt := 25) hx hb dX11_paste_19 (by decide) (fun c_7 => absurd (by decide) c_7) (fun c_7 => ?_)
      refine lv_bipush (v := (-2)) hx hb dX11_paste_22 (by decide) ?_
      exact W.iret (v := (-2)) hx hb hr (fun t ht hW => ⟨(-2), rfl, (Or.inr ⟨(by omega), rfl⟩), ht⟩) (fun _ h => by cases h) dX11_paste_24
  · skip
    refine lv_if_eq (tgt := 22) hx hb dX11_paste_8 (by decide) (fun c_8 => ?_) (fun c_8 => absurd (by decide) c_8)
    refine lv_bipush (v := (-2)) hx hb dX11_paste_22 (by decide) ?_
    exact W.iret (v := (-2)) hx hb hr (fun t ht hW => ⟨(-2), rfl, (Or.inr ⟨(by omega), rfl⟩), ht⟩) (fun _ h => by cases h) dX11_paste_24

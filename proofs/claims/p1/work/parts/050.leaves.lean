set_option maxHeartbeats 4000000 in
set_option maxRecDepth 100000 in
theorem k_X11_isWithin (l : Launch) (D : va_G) (cA : Nat → ClassId) (x : Int32) (lo : Int32) (hi : Int32) : Met l yX11_isWithin (Cond.code yX11_isWithin cX11_isWithin 3 (some .boolean) :: TB) (rmd 0 0 0) (PP D cA [] [.int x, .int lo, .int hi]) (vp_Si (fun r => ((lo : Int32).toInt ≤ (x : Int32).toInt ∧ (x : Int32).toInt ≤ (hi : Int32).toInt) ∧ r = 1 ∨ ((x : Int32).toInt < (lo : Int32).toInt ∨ (hi : Int32).toInt < (x : Int32).toInt) ∧ r = 0)) 0 0 (fun _ => False) := by
  refine Met.ofW (cc := cX11_isWithin) (maxL := 3) (ret := (some .boolean)) (by decide) rfl ?_
  intro p e s m args below meth c s₁ B hml hv
  obtain ⟨rfl, hP, hKN⟩ := hv
  have hx := B.exec
  have hb := B.bytes
  have hr := B.returns
  have hts : ∀ w ∈ TB, w.before _ s = true := fun w h => atoms_spec B.pre w (List.mem_cons_of_mem _ h)
  have hown : s.vm.findClass RX11 = some m.cls := findClass_of_methodNamed B.named
  have hlocks := B.notSynchronized
  have hl := lv_entry ([.int x, .int lo, .int hi]) (n := 3) (Nat.le_of_ble_eq_true rfl)
  rw [lg_entry_eq]
  generalize (lg_sl ([.int x, .int lo, .int hi]) ++ List.replicate (3 - (lg_sl ([.int x, .int lo, .int hi])).length) Slot.unset).toArray = ls at hl ⊢
  have hl : lv_has ls 3 [(0, .int x), (1, .int lo), (2, .int hi)] := hl
  refine lv_iload_n hx hb dX11_isWithin_0 rfl (lv_at hl 0 rfl) ?_
  refine lv_iload_n hx hb dX11_isWithin_1 rfl (lv_at hl 1 rfl) ?_
  refine lv_icmp_lt (tgt := 14) hx hb dX11_isWithin_2 (by decide) (fun c_1 => ?_) (fun c_1 => ?_)
  · skip
    have k_2 := tt_lt c_1
    refine lv_iconst (v := 0) hx hb dX11_isWithin_14 (by decide) ?_
    exact W.zret (v := 0) hx hb hr (by decide) (fun t ht hW => ⟨0, rfl, (Or.inr ⟨(by omega), rfl⟩), ht⟩) (fun _ h => by cases h) dX11_isWithin_15
  · skip
    have k_3 := tt_nlt c_1
    refine lv_iload_n hx hb dX11_isWithin_5 rfl (lv_at hl 0 rfl) ?_
    refine lv_iload_n hx hb dX11_isWithin_6 rfl (lv_at hl 2 rfl) ?_
    refine lv_icmp_gt (tgt := 14) hx hb dX11_isWithin_7 (by decide) (fun c_4 => ?_) (fun c_4 => ?_)
    · skip
      have k_5 := tt_lt c_4
      refine lv_iconst (v := 0) hx hb dX11_isWithin_14 (by decide) ?_
      exact W.zret (v := 0) hx hb hr (by decide) (fun t ht hW => ⟨0, rfl, (Or.inr ⟨(by omega), rfl⟩), ht⟩) (fun _ h => by cases h) dX11_isWithin_15
    · skip
      have k_6 := tt_nlt c_4
      refine lv_iconst (v := 1) hx hb dX11_isWithin_10 (by decide) ?_
      refine lv_goto (tgt := 15) hx hb dX11_isWithin_11 (by decide) ?_
      exact W.zret (v := 1) hx hb hr (by decide) (fun t ht hW => ⟨1, rfl, (Or.inl ⟨(by omega), rfl⟩), ht⟩) (fun _ h => by cases h) dX11_isWithin_15
set_option maxHeartbeats 4000000 in
set_option maxRecDepth 100000 in
theorem k_X3_exists (l : Launch) (D : va_G) (cA : Nat → ClassId) (h0 : Nat) (g_sides : Nat) (g_grips : Nat) (g_wits : Nat) (g_says : Nat) (g_gives0 : Nat) (g_gives1 : Nat) (g_froms : Nat) (g_tos : Nat) : Met l yX3_exists (Cond.code yX3_exists cX3_exists 1 (some .boolean) :: TB) (rmd 0 0 0) (PP D cA [(h0, .inr (3, [.int 0, .int 0, .int 0, .int 0, .int 0, .int 0, .int 0, .int 0, .ref g_sides, .ref g_grips, .ref g_wits, .ref g_says, .ref g_gives0, .ref g_gives1, .ref g_froms, .ref g_tos]))] [.ref h0]) (vp_Si (fun r => r = 0)) 0 0 (fun _ => False) := by
  refine Met.ofW (cc := cX3_exists) (maxL := 1) (ret := (some .boolean)) (by decide) rfl ?_
  intro p e s m args below meth c s₁ B hml hv
  obtain ⟨rfl, hP, hKN⟩ := hv
  have hx := B.exec
  have hb := B.bytes
  have hr := B.returns
  have hts : ∀ w ∈ TB, w.before _ s = true := fun w h => atoms_spec B.pre w (List.mem_cons_of_mem _ h)
  have hown : s.vm.findClass RX3 = some m.cls := findClass_of_methodNamed B.named
  have hlocks := B.notSynchronized
  have hl := lv_entry ([.ref h0]) (n := 1) (Nat.le_of_ble_eq_true rfl)
  rw [lg_entry_eq]
  generalize (lg_sl ([.ref h0]) ++ List.replicate (1 - (lg_sl ([.ref h0])).length) Slot.unset).toArray = ls at hl ⊢
  have hl : lv_has ls 1 [(0, .ref h0)] := hl
  refine lv_aload_n hx hb dX3_exists_0 rfl (lv_at hl 0 rfl) ?_
  refine va_get (D := D) (ci := 3) (v := .int 0) (C := RX3) (T := TX3) (N := 16) hx hb hts inX3 hown hKN.1 hP 0 rfl rfl 2 (by decide) (hts _ tw_164) (fun _ h9 => h9) rfl dX3_exists_1 ?_
  refine lv_if_le (tgt := 11) hx hb dX3_exists_4 (by decide) (fun c_1 => ?_) (fun c_1 => absurd (by decide) c_1)
  refine lv_iconst (v := 0) hx hb dX3_exists_11 (by decide) ?_
  exact W.zret (v := 0) hx hb hr (by decide) (fun t ht hW => ⟨0, rfl, rfl, ht⟩) (fun _ h => by cases h) dX3_exists_12
set_option maxHeartbeats 4000000 in
set_option maxRecDepth 100000 in
theorem k_X3_hasSide (l : Launch) (D : va_G) (cA : Nat → ClassId) (h0 : Nat) (g_sides : Nat) (g_grips : Nat) (g_wits : Nat) (g_says : Nat) (g_gives0 : Nat) (g_gives1 : Nat) (g_froms : Nat) (g_tos : Nat) (side : Int32) : Met l yX3_hasSide (Cond.code yX3_hasSide cX3_hasSide 2 (some .boolean) :: TB) (rmd 1 0 0) (PP D cA [(h0, .inr (3, [.int 0, .int 0, .int 0, .int 0, .int 0, .int 0, .int 0, .int 0, .ref g_sides, .ref g_grips, .ref g_wits, .ref g_says, .ref g_gives0, .ref g_gives1, .ref g_froms, .ref g_tos]))] [.ref h0, .int side]) (vp_Si (fun r => r = 0)) 0 0 (fun _ => False) := by
  refine Met.ofW (cc := cX3_hasSide) (maxL := 2) (ret := (some .boolean)) (by decide) rfl ?_
  intro p e s m args below meth c s₁ B hml hv
  obtain ⟨rfl, hP, hKN⟩ := hv
  have hx := B.exec
  have hb := B.bytes
  have hr := B.returns
  have hts : ∀ w ∈ TB, w.before _ s = true := fun w h => atoms_spec B.pre w (List.mem_cons_of_mem _ h)
  have hown : s.vm.findClass RX3 = some m.cls := findClass_of_methodNamed B.named
  have hlocks := B.notSynchronized
  have hl := lv_entry ([.ref h0, .int side]) (n := 2) (Nat.le_of_ble_eq_true rfl)
  rw [lg_entry_eq]
  generalize (lg_sl ([.ref h0, .int side]) ++ List.replicate (2 - (lg_sl ([.ref h0, .int side])).length) Slot.unset).toArray = ls at hl ⊢
  have hl : lv_has ls 2 [(0, .ref h0), (1, .int side)] := hl
  refine lv_aload_n hx hb dX3_hasSide_0 rfl (lv_at hl 0 rfl) ?_
  refine cpVi (rest := []) ⟨hx, hb, hml, hown, hts⟩ hKN (hP.sub (ws' := [(h0, .inr (3, [.int 0, .int 0, .int 0, .int 0, .int 0, .int 0, .int 0, .int 0, .ref g_sides, .ref g_grips, .ref g_wits, .ref g_says, .ref g_gives0, .ref g_gives1, .ref g_froms, .ref g_tos]))]) [0] rfl) (k_X3_exists l D cA h0 g_sides g_grips g_wits g_says g_gives0 g_gives1 g_froms g_tos) (tb_V tw_740 tw_741 tw_742 tw_104 tw_743) hdX3_exists ⟨rfl, rfl, Nat.le_of_ble_eq_true rfl, Nat.le_of_ble_eq_true rfl⟩ ⟨Nat.le_of_ble_eq_true rfl, Nat.le_of_ble_eq_true rfl⟩ rfl rfl rfl hl.1 rfl (Nat.le_of_ble_eq_true rfl) dX3_hasSide_1 (fun r_1 hr_1 => ?_)
  obtain rfl : r_1 = 0 := hr_1
  refine lv_if_eq (tgt := 20) hx hb dX3_hasSide_4 (by decide) (fun c_2 => ?_) (fun c_2 => absurd (by decide) c_2)
  refine lv_iconst (v := 0) hx hb dX3_hasSide_20 (by decide) ?_
  exact W.zret (v := 0) hx hb hr (by decide) (fun t ht hW => ⟨0, rfl, rfl, ht⟩) (fun _ h => by cases h) dX3_hasSide_21
set_option maxHeartbeats 4000000 in
set_option maxRecDepth 100000 in
theorem k_X3_hasMan (l : Launch) (D : va_G) (cA : Nat → ClassId) (h0 : Nat) (g_sides : Nat) (g_grips : Nat) (g_wits : Nat) (g_says : Nat) (g_gives0 : Nat) (g_gives1 : Nat) (g_froms : Nat) (g_tos : Nat) (man : Int32) : Met l yX3_hasMan (Cond.code yX3_hasMan cX3_hasMan 2 (some .boolean) :: TB) (rmd 0 0 0) (PP D cA [(h0, .inr (3, [.int 0, .int 0, .int 0, .int 0, .int 0, .int 0, .int 0, .int 0, .ref g_sides, .ref g_grips, .ref g_wits, .ref g_says, .ref g_gives0, .ref g_gives1, .ref g_froms, .ref g_tos]))] [.ref h0, .int man]) (vp_Si (fun r => r = 0)) 0 0 (fun _ => False) := by
  refine Met.ofW (cc := cX3_hasMan) (maxL := 2) (ret := (some .boolean)) (by decide) rfl ?_
  intro p e s m args below meth c s₁ B hml hv
  obtain ⟨rfl, hP, hKN⟩ := hv
  have hx := B.exec
  have hb := B.bytes
  have hr := B.returns
  have hts : ∀ w ∈ TB, w.before _ s = true := fun w h => atoms_spec B.pre w (List.mem_cons_of_mem _ h)
  have hown : s.vm.findClass RX3 = some m.cls := findClass_of_methodNamed B.named
  have hlocks := B.notSynchronized
  have hl := lv_entry ([.ref h0, .int man]) (n := 2) (Nat.le_of_ble_eq_true rfl)
  rw [lg_entry_eq]
  generalize (lg_sl ([.ref h0, .int man]) ++ List.replicate (2 - (lg_sl ([.ref h0, .int man])).length) Slot.unset).toArray = ls at hl ⊢
  have hl : lv_has ls 2 [(0, .ref h0), (1, .int man)] := hl
  refine lv_iload_n hx hb dX3_hasMan_0 rfl (lv_at hl 1 rfl) ?_
  refine lv_if_lt (tgt := 22) hx hb dX3_hasMan_1 (by decide) (fun c_1 => ?_) (fun c_1 => ?_)
  · skip
    have k_2 := tt_lt c_1
    refine lv_iconst (v := 0) hx hb dX3_hasMan_22 (by decide) ?_
    exact W.zret (v := 0) hx hb hr (by decide) (fun t ht hW => ⟨0, rfl, rfl, ht⟩) (fun _ h => by cases h) dX3_hasMan_23
  · skip
    have k_3 := tt_nlt c_1
    refine lv_iload_n hx hb dX3_hasMan_4 rfl (lv_at hl 1 rfl) ?_
    refine lv_aload_n hx hb dX3_hasMan_5 rfl (lv_at hl 0 rfl) ?_
    refine va_get (D := D) (ci := 3) (v := .int 0) (C := RX3) (T := TX3) (N := 16) hx hb hts inX3 hown hKN.1 hP 0 rfl rfl 3 (by decide) (hts _ tw_167) (fun _ h9 => h9) rfl dX3_hasMan_6 ?_
    refine lv_icmp_ge (tgt := 22) hx hb dX3_hasMan_9 (by decide) (fun c_4 => ?_) (fun c_4 => ?_)
    · skip
      have k_5 := tt_le c_4
      refine lv_iconst (v := 0) hx hb dX3_hasMan_22 (by decide) ?_
      exact W.zret (v := 0) hx hb hr (by decide) (fun t ht hW => ⟨0, rfl, rfl, ht⟩) (fun _ h => by cases h) dX3_hasMan_23
    · skip
      have k_6 := tt_nle c_4
      exfalso
      have zi_0 : (0 : Int32).toInt = 0 := (by decide)
      omega
set_option maxHeartbeats 4000000 in
set_option maxRecDepth 100000 in
theorem k_X3_hasClause (l : Launch) (D : va_G) (cA : Nat → ClassId) (h0 : Nat) (g_sides : Nat) (g_grips : Nat) (g_wits : Nat) (g_says : Nat) (g_gives0 : Nat) (g_gives1 : Nat) (g_froms : Nat) (g_tos : Nat) (clause : Int32) : Met l yX3_hasClause (Cond.code yX3_hasClause cX3_hasClause 2 (some .boolean) :: TB) (rmd 0 0 0) (PP D cA [(h0, .inr (3, [.int 0, .int 0, .int 0, .int 0, .int 0, .int 0, .int 0, .int 0, .ref g_sides, .ref g_grips, .ref g_wits, .ref g_says, .ref g_gives0, .ref g_gives1, .ref g_froms, .ref g_tos]))] [.ref h0, .int clause]) (vp_Si (fun r => r = 0)) 0 0 (fun _ => False) := by
  refine Met.ofW (cc := cX3_hasClause) (maxL := 2) (ret := (some .boolean)) (by decide) rfl ?_
  intro p e s m args below meth c s₁ B hml hv
  obtain ⟨rfl, hP, hKN⟩ := hv
  have hx := B.exec
  have hb := B.bytes
  have hr := B.returns
  have hts : ∀ w ∈ TB, w.before _ s = true := fun w h => atoms_spec B.pre w (List.mem_cons_of_mem _ h)
  have hown : s.vm.findClass RX3 = some m.cls := findClass_of_methodNamed B.named
  have hlocks := B.notSynchronized
  have hl := lv_entry ([.ref h0, .int clause]) (n := 2) (Nat.le_of_ble_eq_true rfl)
  rw [lg_entry_eq]
  generalize (lg_sl ([.ref h0, .int clause]) ++ List.replicate (2 - (lg_sl ([.ref h0, .int clause])).length) Slot.unset).toArray = ls at hl ⊢
  have hl : lv_has ls 2 [(0, .ref h0), (1, .int clause)] := hl
  refine lv_iload_n hx hb dX3_hasClause_0 rfl (lv_at hl 1 rfl) ?_
  refine lv_if_lt (tgt := 22) hx hb dX3_hasClause_1 (by decide) (fun c_1 => ?_) (fun c_1 => ?_)
  · skip
    have k_2 := tt_lt c_1
    refine lv_iconst (v := 0) hx hb dX3_hasClause_22 (by decide) ?_
    exact W.zret (v := 0) hx hb hr (by decide) (fun t ht hW => ⟨0, rfl, rfl, ht⟩) (fun _ h => by cases h) dX3_hasClause_23
  · skip
    have k_3 := tt_nlt c_1
    refine lv_iload_n hx hb dX3_hasClause_4 rfl (lv_at hl 1 rfl) ?_
    refine lv_aload_n hx hb dX3_hasClause_5 rfl (lv_at hl 0 rfl) ?_
    refine va_get (D := D) (ci := 3) (v := .int 0) (C := RX3) (T := TX3) (N := 16) hx hb hts inX3 hown hKN.1 hP 0 rfl rfl 4 (by decide) (hts _ tw_172) (fun _ h9 => h9) rfl dX3_hasClause_6 ?_
    refine lv_icmp_ge (tgt := 22) hx hb dX3_hasClause_9 (by decide) (fun c_4 => ?_) (fun c_4 => ?_)
    · skip
      have k_5 := tt_le c_4
      refine lv_iconst (v := 0) hx hb dX3_hasClause_22 (by decide) ?_
      exact W.zret (v := 0) hx hb hr (by decide) (fun t ht hW => ⟨0, rfl, rfl, ht⟩) (fun _ h => by cases h) dX3_hasClause_23
    · skip
      have k_6 := tt_nle c_4
      exfalso
      have zi_0 : (0 : Int32).toInt = 0 := (by decide)
      omega
set_option maxHeartbeats 4000000 in
set_option maxRecDepth 100000 in
theorem k_X3_holdOrRefusal (l : Launch) (D : va_G) (cA : Nat → ClassId) (h0 : Nat) (g_sides : Nat) (g_grips : Nat) (g_wits : Nat) (g_says : Nat) (g_gives0 : Nat) (g_gives1 : Nat) (g_froms : Nat) (g_tos : Nat) (man : Int32) (other : Int32) : Met l yX3_holdOrRefusal (Cond.code yX3_holdOrRefusal cX3_holdOrRefusal 3 (some .int) :: TB) (rmd 1 0 0) (PP D cA [(h0, .inr (3, [.int 0, .int 0, .int 0, .int 0, .int 0, .int 0, .int 0, .int 0, .ref g_sides, .ref g_grips, .ref g_wits, .ref g_says, .ref g_gives0, .ref g_gives1, .ref g_froms, .ref g_tos]))] [.ref h0, .int man, .int other]) (vp_Si (fun r => r = (-2))) 0 0 (fun _ => False) := by
  refine Met.ofW (cc := cX3_holdOrRefusal) (maxL := 3) (ret := (some .int)) (by decide) rfl ?_
  intro p e s m args below meth c s₁ B hml hv
  obtain ⟨rfl, hP, hKN⟩ := hv
  have hx := B.exec
  have hb := B.bytes
  have hr := B.returns
  have hts : ∀ w ∈ TB, w.before _ s = true := fun w h => atoms_spec B.pre w (List.mem_cons_of_mem _ h)
  have hown : s.vm.findClass RX3 = some m.cls := findClass_of_methodNamed B.named
  have hlocks := B.notSynchronized
  have hl := lv_entry ([.ref h0, .int man, .int other]) (n := 3) (Nat.le_of_ble_eq_true rfl)
  rw [lg_entry_eq]
  generalize (lg_sl ([.ref h0, .int man, .int other]) ++ List.replicate (3 - (lg_sl ([.ref h0, .int man, .int other])).length) Slot.unset).toArray = ls at hl ⊢
  have hl : lv_has ls 3 [(0, .ref h0), (1, .int man), (2, .int other)] := hl
  refine lv_aload_n hx hb dX3_holdOrRefusal_0 rfl (lv_at hl 0 rfl) ?_
  refine lv_iload_n hx hb dX3_holdOrRefusal_1 rfl (lv_at hl 1 rfl) ?_
  refine cpVi (rest := []) ⟨hx, hb, hml, hown, hts⟩ hKN (hP.sub (ws' := [(h0, .inr (3, [.int 0, .int 0, .int 0, .int 0, .int 0, .int 0, .int 0, .int 0, .ref g_sides, .ref g_grips, .ref g_wits, .ref g_says, .ref g_gives0, .ref g_gives1, .ref g_froms, .ref g_tos]))]) [0] rfl) (k_X3_hasMan l D cA h0 g_sides g_grips g_wits g_says g_gives0 g_gives1 g_froms g_tos man) (tb_V tw_706 tw_699 tw_700 tw_104 tw_701) hdX3_hasMan ⟨rfl, rfl, Nat.le_of_ble_eq_true rfl, Nat.le_of_ble_eq_true rfl⟩ ⟨Nat.le_of_ble_eq_true rfl, Nat.le_of_ble_eq_true rfl⟩ rfl rfl rfl hl.1 rfl (Nat.le_of_ble_eq_true rfl) dX3_holdOrRefusal_2 (fun r_1 hr_1 => ?_)
  obtain rfl : r_1 = 0 := hr_1
  refine lv_if_eq (tgt := 16) hx hb dX3_holdOrRefusal_5 (by decide) (fun c_2 => ?_) (fun c_2 => absurd (by decide) c_2)
  refine lv_bipush (v := (-2)) hx hb dX3_holdOrRefusal_16 (by decide) ?_
  exact W.iret (v := (-2)) hx hb hr (fun t ht hW => ⟨(-2), rfl, rfl, ht⟩) (fun _ h => by cases h) dX3_holdOrRefusal_18
set_option maxHeartbeats 4000000 in
set_option maxRecDepth 100000 in
theorem k_X3_farOf (l : Launch) (D : va_G) (cA : Nat → ClassId) (h0 : Nat) (g_sides : Nat) (g_grips : Nat) (g_wits : Nat) (g_says : Nat) (g_gives0 : Nat) (g_gives1 : Nat) (g_froms : Nat) (g_tos : Nat) (side : Int32) : Met l yX3_farOf (Cond.code yX3_farOf cX3_farOf 2 (some .int) :: TB) (rmd 0 0 0) (PP D cA [(h0, .inr (3, [.int 0, .int 0, .int 0, .int 0, .int 0, .int 0, .int 0, .int 0, .ref g_sides, .ref g_grips, .ref g_wits, .ref g_says, .ref g_gives0, .ref g_gives1, .ref g_froms, .ref g_tos]))] [.ref h0, .int side]) (vp_Si (fun r => r = 0)) 0 0 (fun _ => False) := by
  refine Met.ofW (cc := cX3_farOf) (maxL := 2) (ret := (some .int)) (by decide) rfl ?_
  intro p e s m args below meth c s₁ B hml hv
  obtain ⟨rfl, hP, hKN⟩ := hv
  have hx := B.exec
  have hb := B.bytes
  have hr := B.returns
  have hts : ∀ w ∈ TB, w.before _ s = true := fun w h => atoms_spec B.pre w (List.mem_cons_of_mem _ h)
  have hown : s.vm.findClass RX3 = some m.cls := findClass_of_methodNamed B.named
  have hlocks := B.notSynchronized
  have hl := lv_entry ([.ref h0, .int side]) (n := 2) (Nat.le_of_ble_eq_true rfl)
  rw [lg_entry_eq]
  generalize (lg_sl ([.ref h0, .int side]) ++ List.replicate (2 - (lg_sl ([.ref h0, .int side])).length) Slot.unset).toArray = ls at hl ⊢
  have hl : lv_has ls 2 [(0, .ref h0), (1, .int side)] := hl
  refine lv_iload_n hx hb dX3_farOf_0 rfl (lv_at hl 1 rfl) ?_
  refine lv_if_ne (tgt := 11) hx hb dX3_farOf_1 (by decide) (fun c_1 => ?_) (fun c_1 => ?_)
  · skip
    have k_2 := tt_ne c_1
    refine lv_aload_n hx hb dX3_farOf_11 rfl (lv_at hl 0 rfl) ?_
    refine va_get (D := D) (ci := 3) (v := .int 0) (C := RX3) (T := TX3) (N := 16) hx hb hts inX3 hown hKN.1 hP 0 rfl rfl 7 (by decide) (hts _ tw_181) (fun _ h9 => h9) rfl dX3_farOf_12 ?_
    exact W.iret (v := 0) hx hb hr (fun t ht hW => ⟨0, rfl, rfl, ht⟩) (fun _ h => by cases h) dX3_farOf_15
  · skip
    have k_3 := tt_eq c_1
    refine lv_aload_n hx hb dX3_farOf_4 rfl (lv_at hl 0 rfl) ?_
    refine va_get (D := D) (ci := 3) (v := .int 0) (C := RX3) (T := TX3) (N := 16) hx hb hts inX3 hown hKN.1 hP 0 rfl rfl 6 (by decide) (hts _ tw_180) (fun _ h9 => h9) rfl dX3_farOf_5 ?_
    refine lv_goto (tgt := 15) hx hb dX3_farOf_8 (by decide) ?_
    exact W.iret (v := 0) hx hb hr (fun t ht hW => ⟨0, rfl, rfl, ht⟩) (fun _ h => by cases h) dX3_farOf_15
set_option maxHeartbeats 4000000 in
set_option maxRecDepth 100000 in
theorem k_X7_has (l : Launch) (D : va_G) (cA : Nat → ClassId) (h0 : Nat) (s_sizes : Nat) (s_widths : Nat) (s_numbers : Nat) (slot : Int32) : Met l yX7_has (Cond.code yX7_has cX7_has 2 (some .boolean) :: TB) (rmd 0 0 0) (PP D cA [(h0, .inr (7, [.ref s_sizes, .ref s_widths, .ref s_numbers]))] [.ref h0, .int slot]) (vp_Si (fun r => (0 ≤ (slot : Int32).toInt ∧ (slot : Int32).toInt < 4) ∧ r = 1 ∨ ((slot : Int32).toInt < 0 ∨ 4 ≤ (slot : Int32).toInt) ∧ r = 0)) 0 0 (fun _ => False) := by
  refine Met.ofW (cc := cX7_has) (maxL := 2) (ret := (some .boolean)) (by decide) rfl ?_
  intro p e s m args below meth c s₁ B hml hv
  obtain ⟨rfl, hP, hKN⟩ := hv
  have hx := B.exec
  have hb := B.bytes
  have hr := B.returns
  have hts : ∀ w ∈ TB, w.before _ s = true := fun w h => atoms_spec B.pre w (List.mem_cons_of_mem _ h)
  have hown : s.vm.findClass RX7 = some m.cls := findClass_of_methodNamed B.named
  have hlocks := B.notSynchronized
  have hl := lv_entry ([.ref h0, .int slot]) (n := 2) (Nat.le_of_ble_eq_true rfl)
  rw [lg_entry_eq]
  generalize (lg_sl ([.ref h0, .int slot]) ++ List.replicate (2 - (lg_sl ([.ref h0, .int slot])).length) Slot.unset).toArray = ls at hl ⊢
  have hl : lv_has ls 2 [(0, .ref h0), (1, .int slot)] := hl
  refine lv_iload_n hx hb dX7_has_0 rfl (lv_at hl 1 rfl) ?_
  refine lv_if_lt (tgt := 13) hx hb dX7_has_1 (by decide) (fun c_1 => ?_) (fun c_1 => ?_)
  · skip
    have k_2 := tt_lt c_1
    refine lv_iconst (v := 0) hx hb dX7_has_13 (by decide) ?_
    exact W.zret (v := 0) hx hb hr (by decide) (fun t ht hW => ⟨0, rfl, (Or.inr ⟨(by have zi_0 : (0 : Int32).toInt = 0 := (by decide); omega), rfl⟩), ht⟩) (fun _ h => by cases h) dX7_has_14
  · skip
    have k_3 := tt_nlt c_1
    refine lv_iload_n hx hb dX7_has_4 rfl (lv_at hl 1 rfl) ?_
    refine lv_iconst (v := 4) hx hb dX7_has_5 (by decide) ?_
    refine lv_icmp_ge (tgt := 13) hx hb dX7_has_6 (by decide) (fun c_4 => ?_) (fun c_4 => ?_)
    · skip
      have k_5 := tt_le c_4
      refine lv_iconst (v := 0) hx hb dX7_has_13 (by decide) ?_
      exact W.zret (v := 0) hx hb hr (by decide) (fun t ht hW => ⟨0, rfl, (Or.inr ⟨(by have zi_0 : (0 : Int32).toInt = 0 := (by decide); have zi_4 : (4 : Int32).toInt = 4 := (by decide); omega), rfl⟩), ht⟩) (fun _ h => by cases h) dX7_has_14
    · skip
      have k_6 := tt_nle c_4
      refine lv_iconst (v := 1) hx hb dX7_has_9 (by decide) ?_
      refine lv_goto (tgt := 14) hx hb dX7_has_10 (by decide) ?_
      exact W.zret (v := 1) hx hb hr (by decide) (fun t ht hW => ⟨1, rfl, (Or.inl ⟨(by have zi_0 : (0 : Int32).toInt = 0 := (by decide); have zi_4 : (4 : Int32).toInt = 4 := (by decide); omega), rfl⟩), ht⟩) (fun _ h => by cases h) dX7_has_14
set_option maxHeartbeats 4000000 in
set_option maxRecDepth 100000 in
theorem k_X7_sizeOf (l : Launch) (D : va_G) (cA : Nat → ClassId) (h0 : Nat) (s_sizes : Nat) (s_widths : Nat) (s_numbers : Nat) (slot : Int32) : Met l yX7_sizeOf (Cond.code yX7_sizeOf cX7_sizeOf 2 (some .int) :: TB) (rmd 1 0 0) (PP D cA [(h0, .inr (7, [.ref s_sizes, .ref s_widths, .ref s_numbers])), (s_sizes, .inl (cA 1, 4, .inl (fun _ => (-1))))] [.ref h0, .int slot]) (vp_Si (fun r => r = (-1))) 0 0 (fun _ => False) := by
  refine Met.ofW (cc := cX7_sizeOf) (maxL := 2) (ret := (some .int)) (by decide) rfl ?_
  intro p e s m args below meth c s₁ B hml hv
  obtain ⟨rfl, hP, hKN⟩ := hv
  have hx := B.exec
  have hb := B.bytes
  have hr := B.returns
  have hts : ∀ w ∈ TB, w.before _ s = true := fun w h => atoms_spec B.pre w (List.mem_cons_of_mem _ h)
  have hown : s.vm.findClass RX7 = some m.cls := findClass_of_methodNamed B.named
  have hlocks := B.notSynchronized
  have hl := lv_entry ([.ref h0, .int slot]) (n := 2) (Nat.le_of_ble_eq_true rfl)
  rw [lg_entry_eq]
  generalize (lg_sl ([.ref h0, .int slot]) ++ List.replicate (2 - (lg_sl ([.ref h0, .int slot])).length) Slot.unset).toArray = ls at hl ⊢
  have hl : lv_has ls 2 [(0, .ref h0), (1, .int slot)] := hl
  refine lv_aload_n hx hb dX7_sizeOf_0 rfl (lv_at hl 0 rfl) ?_
  refine lv_iload_n hx hb dX7_sizeOf_1 rfl (lv_at hl 1 rfl) ?_
  refine cpVi (rest := []) ⟨hx, hb, hml, hown, hts⟩ hKN (hP.sub (ws' := [(h0, .inr (7, [.ref s_sizes, .ref s_widths, .ref s_numbers]))]) [0] rfl) (k_X7_has l D cA h0 s_sizes s_widths s_numbers slot) (tb_V tw_950 tw_939 tw_940 tw_107 tw_941) hdX7_has ⟨rfl, rfl, Nat.le_of_ble_eq_true rfl, Nat.le_of_ble_eq_true rfl⟩ ⟨Nat.le_of_ble_eq_true rfl, Nat.le_of_ble_eq_true rfl⟩ rfl rfl rfl hl.1 rfl (Nat.le_of_ble_eq_true rfl) dX7_sizeOf_2 (fun r_1 hr_1 => ?_)
  rcases hr_1 with ⟨k_1_0, rfl⟩ | ⟨k_1_1, rfl⟩
  · skip
    refine lv_if_eq (tgt := 17) hx hb dX7_sizeOf_5 (by decide) (fun c_2 => absurd c_2 (by decide)) (fun c_2 => ?_)
    refine lv_aload_n hx hb dX7_sizeOf_8 rfl (lv_at hl 0 rfl) ?_
    refine va_get (D := D) (ci := 7) (v := .ref s_sizes) (C := RX7) (T := TX7) (N := 3) hx hb hts inX7 hown hKN.1 hP 0 rfl rfl 0 (by decide) (hts _ tw_343) (fun _ h9 => h9) rfl dX7_sizeOf_9 ?_
    refine lv_iload_n hx hb dX7_sizeOf_12 rfl (lv_at hl 1 rfl) ?_
    refine va_iald hx hb hKN.1 hP 1 1 rfl rfl (vp_in_iff.mpr ⟨by omega, by omega⟩) dX7_sizeOf_13 ?_
    refine lv_topi (fun x_3 ex_3 => ?_)
    obtain rfl : x_3 = (-1) := ex_3
    refine lv_goto (tgt := 18) hx hb dX7_sizeOf_14 (by decide) ?_
    exact W.iret (v := (-1)) hx hb hr (fun t ht hW => ⟨(-1), rfl, rfl, ht⟩) (fun _ h => by cases h) dX7_sizeOf_18
  · skip
    refine lv_if_eq (tgt := 17) hx hb dX7_sizeOf_5 (by decide) (fun c_4 => ?_) (fun c_4 => absurd (by decide) c_4)
    refine lv_iconst (v := (-1)) hx hb dX7_sizeOf_17 (by decide) ?_
    exact W.iret (v := (-1)) hx hb hr (fun t ht hW => ⟨(-1), rfl, rfl, ht⟩) (fun _ h => by cases h) dX7_sizeOf_18
set_option maxHeartbeats 4000000 in
set_option maxRecDepth 100000 in
theorem k_X7_isBare (l : Launch) (D : va_G) (cA : Nat → ClassId) (h0 : Nat) (s_sizes : Nat) (s_widths : Nat) (s_numbers : Nat) (slot : Int32) : Met l yX7_isBare (Cond.code yX7_isBare cX7_isBare 2 (some .boolean) :: TB) (rmd 2 0 0) (PP D cA [(h0, .inr (7, [.ref s_sizes, .ref s_widths, .ref s_numbers])), (s_sizes, .inl (cA 1, 4, .inl (fun _ => (-1))))] [.ref h0, .int slot]) (vp_Si (fun r => r = 1)) 0 0 (fun _ => False) := by
  refine Met.ofW (cc := cX7_isBare) (maxL := 2) (ret := (some .boolean)) (by decide) rfl ?_
  intro p e s m args below meth c s₁ B hml hv
  obtain ⟨rfl, hP, hKN⟩ := hv
  have hx := B.exec
  have hb := B.bytes
  have hr := B.returns
  have hts : ∀ w ∈ TB, w.before _ s = true := fun w h => atoms_spec B.pre w (List.mem_cons_of_mem _ h)
  have hown : s.vm.findClass RX7 = some m.cls := findClass_of_methodNamed B.named
  have hlocks := B.notSynchronized
  have hl := lv_entry ([.ref h0, .int slot]) (n := 2) (Nat.le_of_ble_eq_true rfl)
  rw [lg_entry_eq]
  generalize (lg_sl ([.ref h0, .int slot]) ++ List.replicate (2 - (lg_sl ([.ref h0, .int slot])).length) Slot.unset).toArray = ls at hl ⊢
  have hl : lv_has ls 2 [(0, .ref h0), (1, .int slot)] := hl
  refine lv_aload_n hx hb dX7_isBare_0 rfl (lv_at hl 0 rfl) ?_
  refine lv_iload_n hx hb dX7_isBare_1 rfl (lv_at hl 1 rfl) ?_
  refine cpVi (rest := []) ⟨hx, hb, hml, hown, hts⟩ hKN (hP.sub (ws' := [(h0, .inr (7, [.ref s_sizes, .ref s_widths, .ref s_numbers])), (s_sizes, .inl (cA 1, 4, .inl (fun _ => (-1))))]) [0, 1] rfl) (k_X7_sizeOf l D cA h0 s_sizes s_widths s_numbers slot) (tb_V tw_946 tw_947 tw_948 tw_107 tw_949) hdX7_sizeOf ⟨rfl, rfl, Nat.le_of_ble_eq_true rfl, Nat.le_of_ble_eq_true rfl⟩ ⟨Nat.le_of_ble_eq_true rfl, Nat.le_of_ble_eq_true rfl⟩ rfl rfl rfl hl.1 rfl (Nat.le_of_ble_eq_true rfl) dX7_isBare_2 (fun r_1 hr_1 => ?_)
  obtain rfl : r_1 = (-1) := hr_1
  refine lv_iconst (v := (-1)) hx hb dX7_isBare_5 (by decide) ?_
  refine lv_icmp_ne (tgt := 13) hx hb dX7_isBare_6 (by decide) (fun c_2 => absurd (by decide) c_2) (fun c_2 => ?_)
  refine lv_iconst (v := 1) hx hb dX7_isBare_9 (by decide) ?_
  refine lv_goto (tgt := 14) hx hb dX7_isBare_10 (by decide) ?_
  exact W.zret (v := 1) hx hb hr (by decide) (fun t ht hW => ⟨1, rfl, rfl, ht⟩) (fun _ h => by cases h) dX7_isBare_14
set_option maxHeartbeats 4000000 in
set_option maxRecDepth 100000 in
theorem k_X7_withRow (l : Launch) (D : va_G) (cA : Nat → ClassId) (h0 : Nat) (s_sizes : Nat) (s_widths : Nat) (s_numbers : Nat) : Met l yX7_withRow (Cond.code yX7_withRow cX7_withRow 3 (some .int) :: TB) (rmd 3 0 0) (PP D cA [(h0, .inr (7, [.ref s_sizes, .ref s_widths, .ref s_numbers])), (s_sizes, .inl (cA 1, 4, .inl (fun _ => (-1))))] [.ref h0]) (vp_Si (fun r => r = 0)) 0 0 (fun _ => False) := by
  refine Met.ofW (cc := cX7_withRow) (maxL := 3) (ret := (some .int)) (by decide) rfl ?_
  intro p e s m args below meth c s₁ B hml hv
  obtain ⟨rfl, hP, hKN⟩ := hv
  have hx := B.exec
  have hb := B.bytes
  have hr := B.returns
  have hts : ∀ w ∈ TB, w.before _ s = true := fun w h => atoms_spec B.pre w (List.mem_cons_of_mem _ h)
  have hown : s.vm.findClass RX7 = some m.cls := findClass_of_methodNamed B.named
  have hlocks := B.notSynchronized
  have hl := lv_entry ([.ref h0]) (n := 3) (Nat.le_of_ble_eq_true rfl)
  rw [lg_entry_eq]
  generalize (lg_sl ([.ref h0]) ++ List.replicate (3 - (lg_sl ([.ref h0])).length) Slot.unset).toArray = ls at hl ⊢
  have hl : lv_has ls 3 [(0, .ref h0)] := hl
  refine lv_iconst (v := 0) hx hb dX7_withRow_0 (by decide) ?_
  refine lv_istore_n (lv' := [(1, .int 0), (0, .ref h0)]) hx hb dX7_withRow_1 rfl hl (by decide) rfl (fun ls hl => ?_)
  refine lv_iconst (v := 0) hx hb dX7_withRow_2 (by decide) ?_
  refine lv_istore_n (lv' := [(2, .int 0), (1, .int 0), (0, .ref h0)]) hx hb dX7_withRow_3 rfl hl (by decide) rfl (fun ls hl => ?_)
  refine lv_iload_n hx hb dX7_withRow_4 rfl (lv_at hl 0 rfl) ?_
  refine lv_iconst (v := 4) hx hb dX7_withRow_5 (by decide) ?_
  refine lv_icmp_ge (tgt := 26) hx hb dX7_withRow_6 (by decide) (fun c_1 => absurd c_1 (by decide)) (fun c_1 => ?_)
  refine lv_aload_n hx hb dX7_withRow_9 rfl (lv_at hl 2 rfl) ?_
  refine lv_iload_n hx hb dX7_withRow_10 rfl (lv_at hl 0 rfl) ?_
  refine cpVi (rest := []) ⟨hx, hb, hml, hown, hts⟩ hKN (hP.sub (ws' := [(h0, .inr (7, [.ref s_sizes, .ref s_widths, .ref s_numbers])), (s_sizes, .inl (cA 1, 4, .inl (fun _ => (-1))))]) [0, 1] rfl) (k_X7_isBare l D cA h0 s_sizes s_widths s_numbers 0) (tb_V tw_1367 tw_943 tw_944 tw_107 tw_945) hdX7_isBare ⟨rfl, rfl, Nat.le_of_ble_eq_true rfl, Nat.le_of_ble_eq_true rfl⟩ ⟨Nat.le_of_ble_eq_true rfl, Nat.le_of_ble_eq_true rfl⟩ rfl rfl rfl hl.1 rfl (Nat.le_of_ble_eq_true rfl) dX7_withRow_11 (fun r_2 hr_2 => ?_)
  obtain rfl : r_2 = 1 := hr_2
  refine lv_if_ne (tgt := 20) hx hb dX7_withRow_14 (by decide) (fun c_3 => ?_) (fun c_3 => absurd c_3 (by decide))
  refine lv_iinc (v := 1) (lv' := [(2, .int 1), (1, .int 0), (0, .ref h0)]) hx hb dX7_withRow_20 hl (k := 0) rfl (by decide) (by decide) rfl (fun ls hl => ?_)
  refine lv_goto (tgt := 4) hx hb dX7_withRow_23 (by decide) ?_
  refine lv_iload_n hx hb dX7_withRow_4 rfl (lv_at hl 0 rfl) ?_
  refine lv_iconst (v := 4) hx hb dX7_withRow_5 (by decide) ?_
  refine lv_icmp_ge (tgt := 26) hx hb dX7_withRow_6 (by decide) (fun c_4 => absurd c_4 (by decide)) (fun c_4 => ?_)
  refine lv_aload_n hx hb dX7_withRow_9 rfl (lv_at hl 2 rfl) ?_
  refine lv_iload_n hx hb dX7_withRow_10 rfl (lv_at hl 0 rfl) ?_
  refine cpVi (rest := []) ⟨hx, hb, hml, hown, hts⟩ hKN (hP.sub (ws' := [(h0, .inr (7, [.ref s_sizes, .ref s_widths, .ref s_numbers])), (s_sizes, .inl (cA 1, 4, .inl (fun _ => (-1))))]) [0, 1] rfl) (k_X7_isBare l D cA h0 s_sizes s_widths s_numbers 1) (tb_V tw_1367 tw_943 tw_944 tw_107 tw_945) hdX7_isBare ⟨rfl, rfl, Nat.le_of_ble_eq_true rfl, Nat.le_of_ble_eq_true rfl⟩ ⟨Nat.le_of_ble_eq_true rfl, Nat.le_of_ble_eq_true rfl⟩ rfl rfl rfl hl.1 rfl (Nat.le_of_ble_eq_true rfl) dX7_withRow_11 (fun r_5 hr_5 => ?_)
  obtain rfl : r_5 = 1 := hr_5
  refine lv_if_ne (tgt := 20) hx hb dX7_withRow_14 (by decide) (fun c_6 => ?_) (fun c_6 => absurd c_6 (by decide))
  refine lv_iinc (v := 2) (lv' := [(2, .int 2), (1, .int 0), (0, .ref h0)]) hx hb dX7_withRow_20 hl (k := 0) rfl (by decide) (by decide) rfl (fun ls hl => ?_)
  refine lv_goto (tgt := 4) hx hb dX7_withRow_23 (by decide) ?_
  refine lv_iload_n hx hb dX7_withRow_4 rfl (lv_at hl 0 rfl) ?_
  refine lv_iconst (v := 4) hx hb dX7_withRow_5 (by decide) ?_
  refine lv_icmp_ge (tgt := 26) hx hb dX7_withRow_6 (by decide) (fun c_7 => absurd c_7 (by decide)) (fun c_7 => ?_)
  refine lv_aload_n hx hb dX7_withRow_9 rfl (lv_at hl 2 rfl) ?_
  refine lv_iload_n hx hb dX7_withRow_10 rfl (lv_at hl 0 rfl) ?_
  refine cpVi (rest := []) ⟨hx, hb, hml, hown, hts⟩ hKN (hP.sub (ws' := [(h0, .inr (7, [.ref s_sizes, .ref s_widths, .ref s_numbers])), (s_sizes, .inl (cA 1, 4, .inl (fun _ => (-1))))]) [0, 1] rfl) (k_X7_isBare l D cA h0 s_sizes s_widths s_numbers 2) (tb_V tw_1367 tw_943 tw_944 tw_107 tw_945) hdX7_isBare ⟨rfl, rfl, Nat.le_of_ble_eq_true rfl, Nat.le_of_ble_eq_true rfl⟩ ⟨Nat.le_of_ble_eq_true rfl, Nat.le_of_ble_eq_true rfl⟩ rfl rfl rfl hl.1 rfl (Nat.le_of_ble_eq_true rfl) dX7_withRow_11 (fun r_8 hr_8 => ?_)
  obtain rfl : r_8 = 1 := hr_8
  refine lv_if_ne (tgt := 20) hx hb dX7_withRow_14 (by decide) (fun c_9 => ?_) (fun c_9 => absurd c_9 (by decide))
  refine lv_iinc (v := 3) (lv' := [(2, .int 3), (1, .int 0), (0, .ref h0)]) hx hb dX7_withRow_20 hl (k := 0) rfl (by decide) (by decide) rfl (fun ls hl => ?_)
  refine lv_goto (tgt := 4) hx hb dX7_withRow_23 (by decide) ?_
  refine lv_iload_n hx hb dX7_withRow_4 rfl (lv_at hl 0 rfl) ?_
  refine lv_iconst (v := 4) hx hb dX7_withRow_5 (by decide) ?_
  refine lv_icmp_ge (tgt := 26) hx hb dX7_withRow_6 (by decide) (fun c_10 => absurd c_10 (by decide)) (fun c_10 => ?_)
  refine lv_aload_n hx hb dX7_withRow_9 rfl (lv_at hl 2 rfl) ?_
  refine lv_iload_n hx hb dX7_withRow_10 rfl (lv_at hl 0 rfl) ?_
  refine cpVi (rest := []) ⟨hx, hb, hml, hown, hts⟩ hKN (hP.sub (ws' := [(h0, .inr (7, [.ref s_sizes, .ref s_widths, .ref s_numbers])), (s_sizes, .inl (cA 1, 4, .inl (fun _ => (-1))))]) [0, 1] rfl) (k_X7_isBare l D cA h0 s_sizes s_widths s_numbers 3) (tb_V tw_1367 tw_943 tw_944 tw_107 tw_945) hdX7_isBare ⟨rfl, rfl, Nat.le_of_ble_eq_true rfl, Nat.le_of_ble_eq_true rfl⟩ ⟨Nat.le_of_ble_eq_true rfl, Nat.le_of_ble_eq_true rfl⟩ rfl rfl rfl hl.1 rfl (Nat.le_of_ble_eq_true rfl) dX7_withRow_11 (fun r_11 hr_11 => ?_)
  obtain rfl : r_11 = 1 := hr_11
  refine lv_if_ne (tgt := 20) hx hb dX7_withRow_14 (by decide) (fun c_12 => ?_) (fun c_12 => absurd c_12 (by decide))
  refine lv_iinc (v := 4) (lv' := [(2, .int 4), (1, .int 0), (0, .ref h0)]) hx hb dX7_withRow_20 hl (k := 0) rfl (by decide) (by decide) rfl (fun ls hl => ?_)
  refine lv_goto (tgt := 4) hx hb dX7_withRow_23 (by decide) ?_
  refine lv_iload_n hx hb dX7_withRow_4 rfl (lv_at hl 0 rfl) ?_
  refine lv_iconst (v := 4) hx hb dX7_withRow_5 (by decide) ?_
  refine lv_icmp_ge (tgt := 26) hx hb dX7_withRow_6 (by decide) (fun c_13 => ?_) (fun c_13 => absurd (by decide) c_13)
  refine lv_iload_n hx hb dX7_withRow_26 rfl (lv_at hl 1 rfl) ?_
  exact W.iret (v := 0) hx hb hr (fun t ht hW => ⟨0, rfl, rfl, ht⟩) (fun _ h => by cases h) dX7_withRow_27
set_option maxHeartbeats 4000000 in
set_option maxRecDepth 100000 in
theorem k_X9_hasRoom (l : Launch) (D : va_G) (cA : Nat → ClassId) (h0 : Nat) (t_bytes : Nat) : Met l yX9_hasRoom (Cond.code yX9_hasRoom cX9_hasRoom 2 (some .boolean) :: TB) (rmd 0 0 0) (PP D cA [(h0, .inr (9, [.ref t_bytes, .int 0]))] [.ref h0, .int 20]) (vp_Si (fun r => r = 1)) 0 0 (fun _ => False) := by
  refine Met.ofW (cc := cX9_hasRoom) (maxL := 2) (ret := (some .boolean)) (by decide) rfl ?_
  intro p e s m args below meth c s₁ B hml hv
  obtain ⟨rfl, hP, hKN⟩ := hv
  have hx := B.exec
  have hb := B.bytes
  have hr := B.returns
  have hts : ∀ w ∈ TB, w.before _ s = true := fun w h => atoms_spec B.pre w (List.mem_cons_of_mem _ h)
  have hown : s.vm.findClass RX9 = some m.cls := findClass_of_methodNamed B.named
  have hlocks := B.notSynchronized
  have hl := lv_entry ([.ref h0, .int 20]) (n := 2) (Nat.le_of_ble_eq_true rfl)
  rw [lg_entry_eq]
  generalize (lg_sl ([.ref h0, .int 20]) ++ List.replicate (2 - (lg_sl ([.ref h0, .int 20])).length) Slot.unset).toArray = ls at hl ⊢
  have hl : lv_has ls 2 [(0, .ref h0), (1, .int 20)] := hl
  refine lv_aload_n hx hb dX9_hasRoom_0 rfl (lv_at hl 0 rfl) ?_
  refine va_get (D := D) (ci := 9) (v := .int 0) (C := RX9) (T := TX9) (N := 2) hx hb hts inX9 hown hKN.1 hP 0 rfl rfl 1 (by decide) (hts _ tw_137) (fun _ h9 => h9) rfl dX9_hasRoom_1 ?_
  refine lv_iload_n hx hb dX9_hasRoom_4 rfl (lv_at hl 1 rfl) ?_
  refine lv_iadd hx hb dX9_hasRoom_5 ?_
  refine lv_topi (fun x_1 ex_1 => ?_)
  obtain rfl : x_1 = 20 := ex_1.trans (by decide)
  refine lv_sipush (v := 800) hx hb dX9_hasRoom_6 (by decide) ?_
  refine lv_icmp_gt (tgt := 16) hx hb dX9_hasRoom_9 (by decide) (fun c_2 => absurd c_2 (by decide)) (fun c_2 => ?_)
  refine lv_iconst (v := 1) hx hb dX9_hasRoom_12 (by decide) ?_
  refine lv_goto (tgt := 17) hx hb dX9_hasRoom_13 (by decide) ?_
  exact W.zret (v := 1) hx hb hr (by decide) (fun t ht hW => ⟨1, rfl, rfl, ht⟩) (fun _ h => by cases h) dX9_hasRoom_17
set_option maxHeartbeats 4000000 in
set_option maxRecDepth 100000 in
theorem k_X9_append_0 (l : Launch) (D : va_G) (cA : Nat → ClassId) (sz : Nat) (h0 : Nat) (t_bytes : Nat) (f : Nat → Int32) (four : Int32) : Met l yX9_append (Cond.code yX9_append cX9_append 3 none :: TB) (rmd 0 0 0) (PM D cA sz [(h0, .inr (9, [.ref t_bytes, .int 0])), (t_bytes, .inl (cA 0, 800, .inl f))] [.ref h0, .int four]) (va_Qv (fun _ : SU => True) (fun u t => va_P D vwCl [(h0, .inr (9, [.ref t_bytes, .int 4])), (t_bytes, .inl (cA 0, 800, .inl (u.2.2.1 0)))] t.heap ∧ va_D (va_A [(h0, .inr (9, [.ref t_bytes, .int 0])), (t_bytes, .inl (cA 0, 800, .inl f))] sz) [(h0, .inr (9, [.ref t_bytes, .int 4])), (t_bytes, .inl (cA 0, 800, .inl (u.2.2.1 0)))]) (va_A [(h0, .inr (9, [.ref t_bytes, .int 0])), (t_bytes, .inl (cA 0, 800, .inl f))] sz)) 0 0 (va_A [(h0, .inr (9, [.ref t_bytes, .int 0])), (t_bytes, .inl (cA 0, 800, .inl f))] sz) := by
  refine Met.ofW (cc := cX9_append) (maxL := 3) (ret := none) (by decide) rfl ?_
  intro p e s m args below meth c s₁ B hml hv
  obtain ⟨rfl, hsz, hP, hKN, hD0⟩ := hv
  have hx := B.exec
  have hb := B.bytes
  have hr := B.returns
  have hts : ∀ w ∈ TB, w.before _ s = true := fun w h => atoms_spec B.pre w (List.mem_cons_of_mem _ h)
  have hown : s.vm.findClass RX9 = some m.cls := findClass_of_methodNamed B.named
  have hlocks := B.notSynchronized
  subst hsz
  have hD := hD0.self (sz := s.heap.size)
  generalize hAe : va_A [(h0, .inr (9, [.ref t_bytes, .int 0])), (t_bytes, .inl (cA 0, 800, .inl f))] s.heap.size = A at hD ⊢
  have hA : ∀ q : Nat, s.heap.size ≤ q → A q := fun q h => by rw [← hAe]; exact Or.inr h
  have hS : va_S A s.heap s.heap [] := va_S.rf
  have hl := lv_entry ([.ref h0, .int four]) (n := 3) (Nat.le_of_ble_eq_true rfl)
  rw [lg_entry_eq]
  generalize (lg_sl ([.ref h0, .int four]) ++ List.replicate (3 - (lg_sl ([.ref h0, .int four])).length) Slot.unset).toArray = ls at hl ⊢
  have hl : lv_has ls 3 [(0, .ref h0), (1, .int four)] := hl
  refine lv_bipush (v := 24) hx hb dX9_append_0 (by decide) ?_
  refine lv_istore_n (lv' := [(2, .int 24), (0, .ref h0), (1, .int four)]) hx hb dX9_append_2 rfl hl (by decide) rfl (fun ls hl => ?_)
  refine lv_iload_n hx hb dX9_append_3 rfl (lv_at hl 0 rfl) ?_
  refine lv_if_lt (tgt := 46) hx hb dX9_append_4 (by decide) (fun c_1 => absurd c_1 (by decide)) (fun c_1 => ?_)
  refine lv_aload_n hx hb dX9_append_7 rfl (lv_at hl 1 rfl) ?_
  refine va_get (D := D) (ci := 9) (v := .int 0) (C := RX9) (T := TX9) (N := 2) hx hb hts inX9 hown hKN.1 hP 0 rfl rfl 1 (by decide) (hts _ tw_137) (fun _ h9 => h9) rfl dX9_append_8 ?_
  refine lv_sipush (v := 800) hx hb dX9_append_11 (by decide) ?_
  refine lv_icmp_ge (tgt := 40) hx hb dX9_append_14 (by decide) (fun c_2 => absurd c_2 (by decide)) (fun c_2 => ?_)
  refine lv_aload_n hx hb dX9_append_17 rfl (lv_at hl 1 rfl) ?_
  refine va_get (D := D) (ci := 9) (v := .ref t_bytes) (C := RX9) (T := TX9) (N := 2) hx hb hts inX9 hown hKN.1 hP 0 rfl rfl 0 (by decide) (hts _ tw_136) (fun _ h9 => h9) rfl dX9_append_18 ?_
  refine lv_aload_n hx hb dX9_append_21 rfl (lv_at hl 1 rfl) ?_
  refine va_get (D := D) (ci := 9) (v := .int 0) (C := RX9) (T := TX9) (N := 2) hx hb hts inX9 hown hKN.1 hP 0 rfl rfl 1 (by decide) (hts _ tw_137) (fun _ h9 => h9) rfl dX9_append_22 ?_
  refine lv_iload_n hx hb dX9_append_25 rfl (lv_at hl 2 rfl) ?_
  refine lv_iload_n hx hb dX9_append_26 rfl (lv_at hl 0 rfl) ?_
  refine lv_ishr hx hb dX9_append_27 ?_
  refine lv_topi (fun x_3 ex_3 => ?_)
  obtain ⟨x_4, ex_4⟩ : ∃ y, x_3.toInt8.toInt32 = y := ⟨_, rfl⟩
  refine lv_i2b (v := x_4) hx hb dX9_append_28 ex_4 ?_
  refine va_bast hx hb hKN.1 hP hD hS 1 0 rfl rfl (by unfold vp_in; decide) dX9_append_29 (fun H locs hP hD hS => ?_)
  have hP : va_P D vwCl [(h0, .inr (9, [.ref t_bytes, .int 0])), (t_bytes, .inl (cA 0, 800, .inl (upd f 0 (vp_nar .byte x_4))))] H := hP
  have hD : va_D A [(h0, .inr (9, [.ref t_bytes, .int 0])), (t_bytes, .inl (cA 0, 800, .inl (upd f 0 (vp_nar .byte x_4))))] := hD
  generalize ef_5 : (upd f 0 (vp_nar .byte x_4)) = f_5 at hP hD
  refine lv_aload_n hx hb dX9_append_30 rfl (lv_at hl 1 rfl) ?_
  refine lv_dup hx hb dX9_append_31 rfl ?_
  refine va_get (D := D) (ci := 9) (v := .int 0) (C := RX9) (T := TX9) (N := 2) hx hb hts inX9 hown hKN.1 hP 0 rfl rfl 1 (by decide) (hts _ tw_137) (fun _ h9 => h9) rfl dX9_append_32 ?_
  refine lv_iconst (v := 1) hx hb dX9_append_35 (by decide) ?_
  refine lv_iadd hx hb dX9_append_36 ?_
  refine lv_topi (fun x_6 ex_6 => ?_)
  obtain rfl : x_6 = 1 := ex_6.trans (by decide)
  refine va_put (D := D) (ci := 9) (v := .int 1) (ty := .int) (C := RX9) (T := TX9) (N := 2) hx hb hts inX9 tyX9 tyX9_ok nmX9 hown hKN.1 hP hD hS 0 rfl rfl 1 (by decide) (hts _ tw_137) (fun _ h9 => h9) rfl (by decide +kernel) rfl rfl (Nat.le_of_ble_eq_true rfl) dX9_append_37 (fun H locs hP hD hS => ?_)
  have hP : va_P D vwCl [(h0, .inr (9, [.ref t_bytes, .int 1])), (t_bytes, .inl (cA 0, 800, .inl f_5))] H := hP
  have hD : va_D A [(h0, .inr (9, [.ref t_bytes, .int 1])), (t_bytes, .inl (cA 0, 800, .inl f_5))] := hD
  refine lv_iinc (v := 16) (lv' := [(2, .int 16), (0, .ref h0), (1, .int four)]) hx hb dX9_append_40 hl (k := 0) rfl (by decide) (by decide) rfl (fun ls hl => ?_)
  refine lv_goto (tgt := 3) hx hb dX9_append_43 (by decide) ?_
  refine lv_iload_n hx hb dX9_append_3 rfl (lv_at hl 0 rfl) ?_
  refine lv_if_lt (tgt := 46) hx hb dX9_append_4 (by decide) (fun c_7 => absurd c_7 (by decide)) (fun c_7 => ?_)
  refine lv_aload_n hx hb dX9_append_7 rfl (lv_at hl 1 rfl) ?_
  refine va_get (D := D) (ci := 9) (v := .int 1) (C := RX9) (T := TX9) (N := 2) hx hb hts inX9 hown hKN.1 hP 0 rfl rfl 1 (by decide) (hts _ tw_137) (fun _ h9 => h9) rfl dX9_append_8 ?_
  refine lv_sipush (v := 800) hx hb dX9_append_11 (by decide) ?_
  refine lv_icmp_ge (tgt := 40) hx hb dX9_append_14 (by decide) (fun c_8 => absurd c_8 (by decide)) (fun c_8 => ?_)
  refine lv_aload_n hx hb dX9_append_17 rfl (lv_at hl 1 rfl) ?_
  refine va_get (D := D) (ci := 9) (v := .ref t_bytes) (C := RX9) (T := TX9) (N := 2) hx hb hts inX9 hown hKN.1 hP 0 rfl rfl 0 (by decide) (hts _ tw_136) (fun _ h9 => h9) rfl dX9_append_18 ?_
  refine lv_aload_n hx hb dX9_append_21 rfl (lv_at hl 1 rfl) ?_
  refine va_get (D := D) (ci := 9) (v := .int 1) (C := RX9) (T := TX9) (N := 2) hx hb hts inX9 hown hKN.1 hP 0 rfl rfl 1 (by decide) (hts _ tw_137) (fun _ h9 => h9) rfl dX9_append_22 ?_
  refine lv_iload_n hx hb dX9_append_25 rfl (lv_at hl 2 rfl) ?_
  refine lv_iload_n hx hb dX9_append_26 rfl (lv_at hl 0 rfl) ?_
  refine lv_ishr hx hb dX9_append_27 ?_
  refine lv_topi (fun x_9 ex_9 => ?_)
  obtain ⟨x_10, ex_10⟩ : ∃ y, x_9.toInt8.toInt32 = y := ⟨_, rfl⟩
  refine lv_i2b (v := x_10) hx hb dX9_append_28 ex_10 ?_
  refine va_bast hx hb hKN.1 hP hD hS 1 0 rfl rfl (by unfold vp_in; decide) dX9_append_29 (fun H locs hP hD hS => ?_)
  have hP : va_P D vwCl [(h0, .inr (9, [.ref t_bytes, .int 1])), (t_bytes, .inl (cA 0, 800, .inl (upd f_5 1 (vp_nar .byte x_10))))] H := hP
  have hD : va_D A [(h0, .inr (9, [.ref t_bytes, .int 1])), (t_bytes, .inl (cA 0, 800, .inl (upd f_5 1 (vp_nar .byte x_10))))] := hD
  generalize ef_11 : (upd f_5 1 (vp_nar .byte x_10)) = f_11 at hP hD
  refine lv_aload_n hx hb dX9_append_30 rfl (lv_at hl 1 rfl) ?_
  refine lv_dup hx hb dX9_append_31 rfl ?_
  refine va_get (D := D) (ci := 9) (v := .int 1) (C := RX9) (T := TX9) (N := 2) hx hb hts inX9 hown hKN.1 hP 0 rfl rfl 1 (by decide) (hts _ tw_137) (fun _ h9 => h9) rfl dX9_append_32 ?_
  refine lv_iconst (v := 1) hx hb dX9_append_35 (by decide) ?_
  refine lv_iadd hx hb dX9_append_36 ?_
  refine lv_topi (fun x_12 ex_12 => ?_)
  obtain rfl : x_12 = 2 := ex_12.trans (by decide)
  refine va_put (D := D) (ci := 9) (v := .int 2) (ty := .int) (C := RX9) (T := TX9) (N := 2) hx hb hts inX9 tyX9 tyX9_ok nmX9 hown hKN.1 hP hD hS 0 rfl rfl 1 (by decide) (hts _ tw_137) (fun _ h9 => h9) rfl (by decide +kernel) rfl rfl (Nat.le_of_ble_eq_true rfl) dX9_append_37 (fun H locs hP hD hS => ?_)
  have hP : va_P D vwCl [(h0, .inr (9, [.ref t_bytes, .int 2])), (t_bytes, .inl (cA 0, 800, .inl f_11))] H := hP
  have hD : va_D A [(h0, .inr (9, [.ref t_bytes, .int 2])), (t_bytes, .inl (cA 0, 800, .inl f_11))] := hD
  refine lv_iinc (v := 8) (lv' := [(2, .int 8), (0, .ref h0), (1, .int four)]) hx hb dX9_append_40 hl (k := 0) rfl (by decide) (by decide) rfl (fun ls hl => ?_)
  refine lv_goto (tgt := 3) hx hb dX9_append_43 (by decide) ?_
  refine lv_iload_n hx hb dX9_append_3 rfl (lv_at hl 0 rfl) ?_
  refine lv_if_lt (tgt := 46) hx hb dX9_append_4 (by decide) (fun c_13 => absurd c_13 (by decide)) (fun c_13 => ?_)
  refine lv_aload_n hx hb dX9_append_7 rfl (lv_at hl 1 rfl) ?_
  refine va_get (D := D) (ci := 9) (v := .int 2) (C := RX9) (T := TX9) (N := 2) hx hb hts inX9 hown hKN.1 hP 0 rfl rfl 1 (by decide) (hts _ tw_137) (fun _ h9 => h9) rfl dX9_append_8 ?_
  refine lv_sipush (v := 800) hx hb dX9_append_11 (by decide) ?_
  refine lv_icmp_ge (tgt := 40) hx hb dX9_append_14 (by decide) (fun c_14 => absurd c_14 (by decide)) (fun c_14 => ?_)
  refine lv_aload_n hx hb dX9_append_17 rfl (lv_at hl 1 rfl) ?_
  refine va_get (D := D) (ci := 9) (v := .ref t_bytes) (C := RX9) (T := TX9) (N := 2) hx hb hts inX9 hown hKN.1 hP 0 rfl rfl 0 (by decide) (hts _ tw_136) (fun _ h9 => h9) rfl dX9_append_18 ?_
  refine lv_aload_n hx hb dX9_append_21 rfl (lv_at hl 1 rfl) ?_
  refine va_get (D := D) (ci := 9) (v := .int 2) (C := RX9) (T := TX9) (N := 2) hx hb hts inX9 hown hKN.1 hP 0 rfl rfl 1 (by decide) (hts _ tw_137) (fun _ h9 => h9) rfl dX9_append_22 ?_
  refine lv_iload_n hx hb dX9_append_25 rfl (lv_at hl 2 rfl) ?_
  refine lv_iload_n hx hb dX9_append_26 rfl (lv_at hl 0 rfl) ?_
  refine lv_ishr hx hb dX9_append_27 ?_
  refine lv_topi (fun x_15 ex_15 => ?_)
  obtain ⟨x_16, ex_16⟩ : ∃ y, x_15.toInt8.toInt32 = y := ⟨_, rfl⟩
  refine lv_i2b (v := x_16) hx hb dX9_append_28 ex_16 ?_
  refine va_bast hx hb hKN.1 hP hD hS 1 0 rfl rfl (by unfold vp_in; decide) dX9_append_29 (fun H locs hP hD hS => ?_)
  have hP : va_P D vwCl [(h0, .inr (9, [.ref t_bytes, .int 2])), (t_bytes, .inl (cA 0, 800, .inl (upd f_11 2 (vp_nar .byte x_16))))] H := hP
  have hD : va_D A [(h0, .inr (9, [.ref t_bytes, .int 2])), (t_bytes, .inl (cA 0, 800, .inl (upd f_11 2 (vp_nar .byte x_16))))] := hD
  generalize ef_17 : (upd f_11 2 (vp_nar .byte x_16)) = f_17 at hP hD
  refine lv_aload_n hx hb dX9_append_30 rfl (lv_at hl 1 rfl) ?_
  refine lv_dup hx hb dX9_append_31 rfl ?_
  refine va_get (D := D) (ci := 9) (v := .int 2) (C := RX9) (T := TX9) (N := 2) hx hb hts inX9 hown hKN.1 hP 0 rfl rfl 1 (by decide) (hts _ tw_137) (fun _ h9 => h9) rfl dX9_append_32 ?_
  refine lv_iconst (v := 1) hx hb dX9_append_35 (by decide) ?_
  refine lv_iadd hx hb dX9_append_36 ?_
  refine lv_topi (fun x_18 ex_18 => ?_)
  obtain rfl : x_18 = 3 := ex_18.trans (by decide)
  refine va_put (D := D) (ci := 9) (v := .int 3) (ty := .int) (C := RX9) (T := TX9) (N := 2) hx hb hts inX9 tyX9 tyX9_ok nmX9 hown hKN.1 hP hD hS 0 rfl rfl 1 (by decide) (hts _ tw_137) (fun _ h9 => h9) rfl (by decide +kernel) rfl rfl (Nat.le_of_ble_eq_true rfl) dX9_append_37 (fun H locs hP hD hS => ?_)
  have hP : va_P D vwCl [(h0, .inr (9, [.ref t_bytes, .int 3])), (t_bytes, .inl (cA 0, 800, .inl f_17))] H := hP
  have hD : va_D A [(h0, .inr (9, [.ref t_bytes, .int 3])), (t_bytes, .inl (cA 0, 800, .inl f_17))] := hD
  refine lv_iinc (v := 0) (lv' := [(2, .int 0), (0, .ref h0), (1, .int four)]) hx hb dX9_append_40 hl (k := 0) rfl (by decide) (by decide) rfl (fun ls hl => ?_)
  refine lv_goto (tgt := 3) hx hb dX9_append_43 (by decide) ?_
  refine lv_iload_n hx hb dX9_append_3 rfl (lv_at hl 0 rfl) ?_
  refine lv_if_lt (tgt := 46) hx hb dX9_append_4 (by decide) (fun c_19 => absurd c_19 (by decide)) (fun c_19 => ?_)
  refine lv_aload_n hx hb dX9_append_7 rfl (lv_at hl 1 rfl) ?_
  refine va_get (D := D) (ci := 9) (v := .int 3) (C := RX9) (T := TX9) (N := 2) hx hb hts inX9 hown hKN.1 hP 0 rfl rfl 1 (by decide) (hts _ tw_137) (fun _ h9 => h9) rfl dX9_append_8 ?_
  refine lv_sipush (v := 800) hx hb dX9_append_11 (by decide) ?_
  refine lv_icmp_ge (tgt := 40) hx hb dX9_append_14 (by decide) (fun c_20 => absurd c_20 (by decide)) (fun c_20 => ?_)
  refine lv_aload_n hx hb dX9_append_17 rfl (lv_at hl 1 rfl) ?_
  refine va_get (D := D) (ci := 9) (v := .ref t_bytes) (C := RX9) (T := TX9) (N := 2) hx hb hts inX9 hown hKN.1 hP 0 rfl rfl 0 (by decide) (hts _ tw_136) (fun _ h9 => h9) rfl dX9_append_18 ?_
  refine lv_aload_n hx hb dX9_append_21 rfl (lv_at hl 1 rfl) ?_
  refine va_get (D := D) (ci := 9) (v := .int 3) (C := RX9) (T := TX9) (N := 2) hx hb hts inX9 hown hKN.1 hP 0 rfl rfl 1 (by decide) (hts _ tw_137) (fun _ h9 => h9) rfl dX9_append_22 ?_
  refine lv_iload_n hx hb dX9_append_25 rfl (lv_at hl 2 rfl) ?_
  refine lv_iload_n hx hb dX9_append_26 rfl (lv_at hl 0 rfl) ?_
  refine lv_ishr hx hb dX9_append_27 ?_
  refine lv_topi (fun x_21 ex_21 => ?_)
  obtain ⟨x_22, ex_22⟩ : ∃ y, x_21.toInt8.toInt32 = y := ⟨_, rfl⟩
  refine lv_i2b (v := x_22) hx hb dX9_append_28 ex_22 ?_
  refine va_bast hx hb hKN.1 hP hD hS 1 0 rfl rfl (by unfold vp_in; decide) dX9_append_29 (fun H locs hP hD hS => ?_)
  have hP : va_P D vwCl [(h0, .inr (9, [.ref t_bytes, .int 3])), (t_bytes, .inl (cA 0, 800, .inl (upd f_17 3 (vp_nar .byte x_22))))] H := hP
  have hD : va_D A [(h0, .inr (9, [.ref t_bytes, .int 3])), (t_bytes, .inl (cA 0, 800, .inl (upd f_17 3 (vp_nar .byte x_22))))] := hD
  generalize ef_23 : (upd f_17 3 (vp_nar .byte x_22)) = f_23 at hP hD
  refine lv_aload_n hx hb dX9_append_30 rfl (lv_at hl 1 rfl) ?_
  refine lv_dup hx hb dX9_append_31 rfl ?_
  refine va_get (D := D) (ci := 9) (v := .int 3) (C := RX9) (T := TX9) (N := 2) hx hb hts inX9 hown hKN.1 hP 0 rfl rfl 1 (by decide) (hts _ tw_137) (fun _ h9 => h9) rfl dX9_append_32 ?_
  refine lv_iconst (v := 1) hx hb dX9_append_35 (by decide) ?_
  refine lv_iadd hx hb dX9_append_36 ?_
  refine lv_topi (fun x_24 ex_24 => ?_)
  obtain rfl : x_24 = 4 := ex_24.trans (by decide)
  refine va_put (D := D) (ci := 9) (v := .int 4) (ty := .int) (C := RX9) (T := TX9) (N := 2) hx hb hts inX9 tyX9 tyX9_ok nmX9 hown hKN.1 hP hD hS 0 rfl rfl 1 (by decide) (hts _ tw_137) (fun _ h9 => h9) rfl (by decide +kernel) rfl rfl (Nat.le_of_ble_eq_true rfl) dX9_append_37 (fun H locs hP hD hS => ?_)
  have hP : va_P D vwCl [(h0, .inr (9, [.ref t_bytes, .int 4])), (t_bytes, .inl (cA 0, 800, .inl f_23))] H := hP
  have hD : va_D A [(h0, .inr (9, [.ref t_bytes, .int 4])), (t_bytes, .inl (cA 0, 800, .inl f_23))] := hD
  refine lv_iinc (v := (-8)) (lv' := [(2, .int (-8)), (0, .ref h0), (1, .int four)]) hx hb dX9_append_40 hl (k := 0) rfl (by decide) (by decide) rfl (fun ls hl => ?_)
  refine lv_goto (tgt := 3) hx hb dX9_append_43 (by decide) ?_
  refine lv_iload_n hx hb dX9_append_3 rfl (lv_at hl 0 rfl) ?_
  refine lv_if_lt (tgt := 46) hx hb dX9_append_4 (by decide) (fun c_25 => ?_) (fun c_25 => absurd (by decide) c_25)
  have hP9 := hP.sub (ws' := [(h0, .inr (9, [.ref t_bytes, .int 4])), (t_bytes, .inl (cA 0, 800, .inl f_23))]) [0, 1] rfl
  have hD9 := hD.sub (ws' := [(h0, .inr (9, [.ref t_bytes, .int 4])), (t_bytes, .inl (cA 0, 800, .inl f_23))]) [0, 1] (by decide) rfl
  exact W.vret hx hb hr (fun t ht hW => ⟨⟨((fun _ => 0), (fun _ => 0), (selF [f_23]), (fun _ _ => 0)), rfl, trivial, by rw [ht]; exact hP9, hD9⟩, hS.F ht⟩) hS.2.2 dX9_append_46
set_option maxHeartbeats 4000000 in
set_option maxRecDepth 100000 in
theorem k_X9_append_4 (l : Launch) (D : va_G) (cA : Nat → ClassId) (sz : Nat) (h0 : Nat) (t_bytes : Nat) (f : Nat → Int32) (four : Int32) : Met l yX9_append (Cond.code yX9_append cX9_append 3 none :: TB) (rmd 0 0 0) (PM D cA sz [(h0, .inr (9, [.ref t_bytes, .int 4])), (t_bytes, .inl (cA 0, 800, .inl f))] [.ref h0, .int four]) (va_Qv (fun _ : SU => True) (fun u t => va_P D vwCl [(h0, .inr (9, [.ref t_bytes, .int 8])), (t_bytes, .inl (cA 0, 800, .inl (u.2.2.1 0)))] t.heap ∧ va_D (va_A [(h0, .inr (9, [.ref t_bytes, .int 4])), (t_bytes, .inl (cA 0, 800, .inl f))] sz) [(h0, .inr (9, [.ref t_bytes, .int 8])), (t_bytes, .inl (cA 0, 800, .inl (u.2.2.1 0)))]) (va_A [(h0, .inr (9, [.ref t_bytes, .int 4])), (t_bytes, .inl (cA 0, 800, .inl f))] sz)) 0 0 (va_A [(h0, .inr (9, [.ref t_bytes, .int 4])), (t_bytes, .inl (cA 0, 800, .inl f))] sz) := by
  refine Met.ofW (cc := cX9_append) (maxL := 3) (ret := none) (by decide) rfl ?_
  intro p e s m args below meth c s₁ B hml hv
  obtain ⟨rfl, hsz, hP, hKN, hD0⟩ := hv
  have hx := B.exec
  have hb := B.bytes
  have hr := B.returns
  have hts : ∀ w ∈ TB, w.before _ s = true := fun w h => atoms_spec B.pre w (List.mem_cons_of_mem _ h)
  have hown : s.vm.findClass RX9 = some m.cls := findClass_of_methodNamed B.named
  have hlocks := B.notSynchronized
  subst hsz
  have hD := hD0.self (sz := s.heap.size)
  generalize hAe : va_A [(h0, .inr (9, [.ref t_bytes, .int 4])), (t_bytes, .inl (cA 0, 800, .inl f))] s.heap.size = A at hD ⊢
  have hA : ∀ q : Nat, s.heap.size ≤ q → A q := fun q h => by rw [← hAe]; exact Or.inr h
  have hS : va_S A s.heap s.heap [] := va_S.rf
  have hl := lv_entry ([.ref h0, .int four]) (n := 3) (Nat.le_of_ble_eq_true rfl)
  rw [lg_entry_eq]
  generalize (lg_sl ([.ref h0, .int four]) ++ List.replicate (3 - (lg_sl ([.ref h0, .int four])).length) Slot.unset).toArray = ls at hl ⊢
  have hl : lv_has ls 3 [(0, .ref h0), (1, .int four)] := hl
  refine lv_bipush (v := 24) hx hb dX9_append_0 (by decide) ?_
  refine lv_istore_n (lv' := [(2, .int 24), (0, .ref h0), (1, .int four)]) hx hb dX9_append_2 rfl hl (by decide) rfl (fun ls hl => ?_)
  refine lv_iload_n hx hb dX9_append_3 rfl (lv_at hl 0 rfl) ?_
  refine lv_if_lt (tgt := 46) hx hb dX9_append_4 (by decide) (fun c_1 => absurd c_1 (by decide)) (fun c_1 => ?_)
  refine lv_aload_n hx hb dX9_append_7 rfl (lv_at hl 1 rfl) ?_
  refine va_get (D := D) (ci := 9) (v := .int 4) (C := RX9) (T := TX9) (N := 2) hx hb hts inX9 hown hKN.1 hP 0 rfl rfl 1 (by decide) (hts _ tw_137) (fun _ h9 => h9) rfl dX9_append_8 ?_
  refine lv_sipush (v := 800) hx hb dX9_append_11 (by decide) ?_
  refine lv_icmp_ge (tgt := 40) hx hb dX9_append_14 (by decide) (fun c_2 => absurd c_2 (by decide)) (fun c_2 => ?_)
  refine lv_aload_n hx hb dX9_append_17 rfl (lv_at hl 1 rfl) ?_
  refine va_get (D := D) (ci := 9) (v := .ref t_bytes) (C := RX9) (T := TX9) (N := 2) hx hb hts inX9 hown hKN.1 hP 0 rfl rfl 0 (by decide) (hts _ tw_136) (fun _ h9 => h9) rfl dX9_append_18 ?_
  refine lv_aload_n hx hb dX9_append_21 rfl (lv_at hl 1 rfl) ?_
  refine va_get (D := D) (ci := 9) (v := .int 4) (C := RX9) (T := TX9) (N := 2) hx hb hts inX9 hown hKN.1 hP 0 rfl rfl 1 (by decide) (hts _ tw_137) (fun _ h9 => h9) rfl dX9_append_22 ?_
  refine lv_iload_n hx hb dX9_append_25 rfl (lv_at hl 2 rfl) ?_
  refine lv_iload_n hx hb dX9_append_26 rfl (lv_at hl 0 rfl) ?_
  refine lv_ishr hx hb dX9_append_27 ?_
  refine lv_topi (fun x_3 ex_3 => ?_)
  obtain ⟨x_4, ex_4⟩ : ∃ y, x_3.toInt8.toInt32 = y := ⟨_, rfl⟩
  refine lv_i2b (v := x_4) hx hb dX9_append_28 ex_4 ?_
  refine va_bast hx hb hKN.1 hP hD hS 1 0 rfl rfl (by unfold vp_in; decide) dX9_append_29 (fun H locs hP hD hS => ?_)
  have hP : va_P D vwCl [(h0, .inr (9, [.ref t_bytes, .int 4])), (t_bytes, .inl (cA 0, 800, .inl (upd f 4 (vp_nar .byte x_4))))] H := hP
  have hD : va_D A [(h0, .inr (9, [.ref t_bytes, .int 4])), (t_bytes, .inl (cA 0, 800, .inl (upd f 4 (vp_nar .byte x_4))))] := hD
  generalize ef_5 : (upd f 4 (vp_nar .byte x_4)) = f_5 at hP hD
  refine lv_aload_n hx hb dX9_append_30 rfl (lv_at hl 1 rfl) ?_
  refine lv_dup hx hb dX9_append_31 rfl ?_
  refine va_get (D := D) (ci := 9) (v := .int 4) (C := RX9) (T := TX9) (N := 2) hx hb hts inX9 hown hKN.1 hP 0 rfl rfl 1 (by decide) (hts _ tw_137) (fun _ h9 => h9) rfl dX9_append_32 ?_
  refine lv_iconst (v := 1) hx hb dX9_append_35 (by decide) ?_
  refine lv_iadd hx hb dX9_append_36 ?_
  refine lv_topi (fun x_6 ex_6 => ?_)
  obtain rfl : x_6 = 5 := ex_6.trans (by decide)
  refine va_put (D := D) (ci := 9) (v := .int 5) (ty := .int) (C := RX9) (T := TX9) (N := 2) hx hb hts inX9 tyX9 tyX9_ok nmX9 hown hKN.1 hP hD hS 0 rfl rfl 1 (by decide) (hts _ tw_137) (fun _ h9 => h9) rfl (by decide +kernel) rfl rfl (Nat.le_of_ble_eq_true rfl) dX9_append_37 (fun H locs hP hD hS => ?_)
  have hP : va_P D vwCl [(h0, .inr (9, [.ref t_bytes, .int 5])), (t_bytes, .inl (cA 0, 800, .inl f_5))] H := hP
  have hD : va_D A [(h0, .inr (9, [.ref t_bytes, .int 5])), (t_bytes, .inl (cA 0, 800, .inl f_5))] := hD
  refine lv_iinc (v := 16) (lv' := [(2, .int 16), (0, .ref h0), (1, .int four)]) hx hb dX9_append_40 hl (k := 0) rfl (by decide) (by decide) rfl (fun ls hl => ?_)
  refine lv_goto (tgt := 3) hx hb dX9_append_43 (by decide) ?_
  refine lv_iload_n hx hb dX9_append_3 rfl (lv_at hl 0 rfl) ?_
  refine lv_if_lt (tgt := 46) hx hb dX9_append_4 (by decide) (fun c_7 => absurd c_7 (by decide)) (fun c_7 => ?_)
  refine lv_aload_n hx hb dX9_append_7 rfl (lv_at hl 1 rfl) ?_
  refine va_get (D := D) (ci := 9) (v := .int 5) (C := RX9) (T := TX9) (N := 2) hx hb hts inX9 hown hKN.1 hP 0 rfl rfl 1 (by decide) (hts _ tw_137) (fun _ h9 => h9) rfl dX9_append_8 ?_
  refine lv_sipush (v := 800) hx hb dX9_append_11 (by decide) ?_
  refine lv_icmp_ge (tgt := 40) hx hb dX9_append_14 (by decide) (fun c_8 => absurd c_8 (by decide)) (fun c_8 => ?_)
  refine lv_aload_n hx hb dX9_append_17 rfl (lv_at hl 1 rfl) ?_
  refine va_get (D := D) (ci := 9) (v := .ref t_bytes) (C := RX9) (T := TX9) (N := 2) hx hb hts inX9 hown hKN.1 hP 0 rfl rfl 0 (by decide) (hts _ tw_136) (fun _ h9 => h9) rfl dX9_append_18 ?_
  refine lv_aload_n hx hb dX9_append_21 rfl (lv_at hl 1 rfl) ?_
  refine va_get (D := D) (ci := 9) (v := .int 5) (C := RX9) (T := TX9) (N := 2) hx hb hts inX9 hown hKN.1 hP 0 rfl rfl 1 (by decide) (hts _ tw_137) (fun _ h9 => h9) rfl dX9_append_22 ?_
  refine lv_iload_n hx hb dX9_append_25 rfl (lv_at hl 2 rfl) ?_
  refine lv_iload_n hx hb dX9_append_26 rfl (lv_at hl 0 rfl) ?_
  refine lv_ishr hx hb dX9_append_27 ?_
  refine lv_topi (fun x_9 ex_9 => ?_)
  obtain ⟨x_10, ex_10⟩ : ∃ y, x_9.toInt8.toInt32 = y := ⟨_, rfl⟩
  refine lv_i2b (v := x_10) hx hb dX9_append_28 ex_10 ?_
  refine va_bast hx hb hKN.1 hP hD hS 1 0 rfl rfl (by unfold vp_in; decide) dX9_append_29 (fun H locs hP hD hS => ?_)
  have hP : va_P D vwCl [(h0, .inr (9, [.ref t_bytes, .int 5])), (t_bytes, .inl (cA 0, 800, .inl (upd f_5 5 (vp_nar .byte x_10))))] H := hP
  have hD : va_D A [(h0, .inr (9, [.ref t_bytes, .int 5])), (t_bytes, .inl (cA 0, 800, .inl (upd f_5 5 (vp_nar .byte x_10))))] := hD
  generalize ef_11 : (upd f_5 5 (vp_nar .byte x_10)) = f_11 at hP hD
  refine lv_aload_n hx hb dX9_append_30 rfl (lv_at hl 1 rfl) ?_
  refine lv_dup hx hb dX9_append_31 rfl ?_
  refine va_get (D := D) (ci := 9) (v := .int 5) (C := RX9) (T := TX9) (N := 2) hx hb hts inX9 hown hKN.1 hP 0 rfl rfl 1 (by decide) (hts _ tw_137) (fun _ h9 => h9) rfl dX9_append_32 ?_
  refine lv_iconst (v := 1) hx hb dX9_append_35 (by decide) ?_
  refine lv_iadd hx hb dX9_append_36 ?_
  refine lv_topi (fun x_12 ex_12 => ?_)
  obtain rfl : x_12 = 6 := ex_12.trans (by decide)
  refine va_put (D := D) (ci := 9) (v := .int 6) (ty := .int) (C := RX9) (T := TX9) (N := 2) hx hb hts inX9 tyX9 tyX9_ok nmX9 hown hKN.1 hP hD hS 0 rfl rfl 1 (by decide) (hts _ tw_137) (fun _ h9 => h9) rfl (by decide +kernel) rfl rfl (Nat.le_of_ble_eq_true rfl) dX9_append_37 (fun H locs hP hD hS => ?_)
  have hP : va_P D vwCl [(h0, .inr (9, [.ref t_bytes, .int 6])), (t_bytes, .inl (cA 0, 800, .inl f_11))] H := hP
  have hD : va_D A [(h0, .inr (9, [.ref t_bytes, .int 6])), (t_bytes, .inl (cA 0, 800, .inl f_11))] := hD
  refine lv_iinc (v := 8) (lv' := [(2, .int 8), (0, .ref h0), (1, .int four)]) hx hb dX9_append_40 hl (k := 0) rfl (by decide) (by decide) rfl (fun ls hl => ?_)
  refine lv_goto (tgt := 3) hx hb dX9_append_43 (by decide) ?_
  refine lv_iload_n hx hb dX9_append_3 rfl (lv_at hl 0 rfl) ?_
  refine lv_if_lt (tgt := 46) hx hb dX9_append_4 (by decide) (fun c_13 => absurd c_13 (by decide)) (fun c_13 => ?_)
  refine lv_aload_n hx hb dX9_append_7 rfl (lv_at hl 1 rfl) ?_
  refine va_get (D := D) (ci := 9) (v := .int 6) (C := RX9) (T := TX9) (N := 2) hx hb hts inX9 hown hKN.1 hP 0 rfl rfl 1 (by decide) (hts _ tw_137) (fun _ h9 => h9) rfl dX9_append_8 ?_
  refine lv_sipush (v := 800) hx hb dX9_append_11 (by decide) ?_
  refine lv_icmp_ge (tgt := 40) hx hb dX9_append_14 (by decide) (fun c_14 => absurd c_14 (by decide)) (fun c_14 => ?_)
  refine lv_aload_n hx hb dX9_append_17 rfl (lv_at hl 1 rfl) ?_
  refine va_get (D := D) (ci := 9) (v := .ref t_bytes) (C := RX9) (T := TX9) (N := 2) hx hb hts inX9 hown hKN.1 hP 0 rfl rfl 0 (by decide) (hts _ tw_136) (fun _ h9 => h9) rfl dX9_append_18 ?_
  refine lv_aload_n hx hb dX9_append_21 rfl (lv_at hl 1 rfl) ?_
  refine va_get (D := D) (ci := 9) (v := .int 6) (C := RX9) (T := TX9) (N := 2) hx hb hts inX9 hown hKN.1 hP 0 rfl rfl 1 (by decide) (hts _ tw_137) (fun _ h9 => h9) rfl dX9_append_22 ?_
  refine lv_iload_n hx hb dX9_append_25 rfl (lv_at hl 2 rfl) ?_
  refine lv_iload_n hx hb dX9_append_26 rfl (lv_at hl 0 rfl) ?_
  refine lv_ishr hx hb dX9_append_27 ?_
  refine lv_topi (fun x_15 ex_15 => ?_)
  obtain ⟨x_16, ex_16⟩ : ∃ y, x_15.toInt8.toInt32 = y := ⟨_, rfl⟩
  refine lv_i2b (v := x_16) hx hb dX9_append_28 ex_16 ?_
  refine va_bast hx hb hKN.1 hP hD hS 1 0 rfl rfl (by unfold vp_in; decide) dX9_append_29 (fun H locs hP hD hS => ?_)
  have hP : va_P D vwCl [(h0, .inr (9, [.ref t_bytes, .int 6])), (t_bytes, .inl (cA 0, 800, .inl (upd f_11 6 (vp_nar .byte x_16))))] H := hP
  have hD : va_D A [(h0, .inr (9, [.ref t_bytes, .int 6])), (t_bytes, .inl (cA 0, 800, .inl (upd f_11 6 (vp_nar .byte x_16))))] := hD
  generalize ef_17 : (upd f_11 6 (vp_nar .byte x_16)) = f_17 at hP hD
  refine lv_aload_n hx hb dX9_append_30 rfl (lv_at hl 1 rfl) ?_
  refine lv_dup hx hb dX9_append_31 rfl ?_
  refine va_get (D := D) (ci := 9) (v := .int 6) (C := RX9) (T := TX9) (N := 2) hx hb hts inX9 hown hKN.1 hP 0 rfl rfl 1 (by decide) (hts _ tw_137) (fun _ h9 => h9) rfl dX9_append_32 ?_
  refine lv_iconst (v := 1) hx hb dX9_append_35 (by decide) ?_
  refine lv_iadd hx hb dX9_append_36 ?_
  refine lv_topi (fun x_18 ex_18 => ?_)
  obtain rfl : x_18 = 7 := ex_18.trans (by decide)
  refine va_put (D := D) (ci := 9) (v := .int 7) (ty := .int) (C := RX9) (T := TX9) (N := 2) hx hb hts inX9 tyX9 tyX9_ok nmX9 hown hKN.1 hP hD hS 0 rfl rfl 1 (by decide) (hts _ tw_137) (fun _ h9 => h9) rfl (by decide +kernel) rfl rfl (Nat.le_of_ble_eq_true rfl) dX9_append_37 (fun H locs hP hD hS => ?_)
  have hP : va_P D vwCl [(h0, .inr (9, [.ref t_bytes, .int 7])), (t_bytes, .inl (cA 0, 800, .inl f_17))] H := hP
  have hD : va_D A [(h0, .inr (9, [.ref t_bytes, .int 7])), (t_bytes, .inl (cA 0, 800, .inl f_17))] := hD
  refine lv_iinc (v := 0) (lv' := [(2, .int 0), (0, .ref h0), (1, .int four)]) hx hb dX9_append_40 hl (k := 0) rfl (by decide) (by decide) rfl (fun ls hl => ?_)
  refine lv_goto (tgt := 3) hx hb dX9_append_43 (by decide) ?_
  refine lv_iload_n hx hb dX9_append_3 rfl (lv_at hl 0 rfl) ?_
  refine lv_if_lt (tgt := 46) hx hb dX9_append_4 (by decide) (fun c_19 => absurd c_19 (by decide)) (fun c_19 => ?_)
  refine lv_aload_n hx hb dX9_append_7 rfl (lv_at hl 1 rfl) ?_
  refine va_get (D := D) (ci := 9) (v := .int 7) (C := RX9) (T := TX9) (N := 2) hx hb hts inX9 hown hKN.1 hP 0 rfl rfl 1 (by decide) (hts _ tw_137) (fun _ h9 => h9) rfl dX9_append_8 ?_
  refine lv_sipush (v := 800) hx hb dX9_append_11 (by decide) ?_
  refine lv_icmp_ge (tgt := 40) hx hb dX9_append_14 (by decide) (fun c_20 => absurd c_20 (by decide)) (fun c_20 => ?_)
  refine lv_aload_n hx hb dX9_append_17 rfl (lv_at hl 1 rfl) ?_
  refine va_get (D := D) (ci := 9) (v := .ref t_bytes) (C := RX9) (T := TX9) (N := 2) hx hb hts inX9 hown hKN.1 hP 0 rfl rfl 0 (by decide) (hts _ tw_136) (fun _ h9 => h9) rfl dX9_append_18 ?_
  refine lv_aload_n hx hb dX9_append_21 rfl (lv_at hl 1 rfl) ?_
  refine va_get (D := D) (ci := 9) (v := .int 7) (C := RX9) (T := TX9) (N := 2) hx hb hts inX9 hown hKN.1 hP 0 rfl rfl 1 (by decide) (hts _ tw_137) (fun _ h9 => h9) rfl dX9_append_22 ?_
  refine lv_iload_n hx hb dX9_append_25 rfl (lv_at hl 2 rfl) ?_
  refine lv_iload_n hx hb dX9_append_26 rfl (lv_at hl 0 rfl) ?_
  refine lv_ishr hx hb dX9_append_27 ?_
  refine lv_topi (fun x_21 ex_21 => ?_)
  obtain ⟨x_22, ex_22⟩ : ∃ y, x_21.toInt8.toInt32 = y := ⟨_, rfl⟩
  refine lv_i2b (v := x_22) hx hb dX9_append_28 ex_22 ?_
  refine va_bast hx hb hKN.1 hP hD hS 1 0 rfl rfl (by unfold vp_in; decide) dX9_append_29 (fun H locs hP hD hS => ?_)
  have hP : va_P D vwCl [(h0, .inr (9, [.ref t_bytes, .int 7])), (t_bytes, .inl (cA 0, 800, .inl (upd f_17 7 (vp_nar .byte x_22))))] H := hP
  have hD : va_D A [(h0, .inr (9, [.ref t_bytes, .int 7])), (t_bytes, .inl (cA 0, 800, .inl (upd f_17 7 (vp_nar .byte x_22))))] := hD
  generalize ef_23 : (upd f_17 7 (vp_nar .byte x_22)) = f_23 at hP hD
  refine lv_aload_n hx hb dX9_append_30 rfl (lv_at hl 1 rfl) ?_
  refine lv_dup hx hb dX9_append_31 rfl ?_
  refine va_get (D := D) (ci := 9) (v := .int 7) (C := RX9) (T := TX9) (N := 2) hx hb hts inX9 hown hKN.1 hP 0 rfl rfl 1 (by decide) (hts _ tw_137) (fun _ h9 => h9) rfl dX9_append_32 ?_
  refine lv_iconst (v := 1) hx hb dX9_append_35 (by decide) ?_
  refine lv_iadd hx hb dX9_append_36 ?_
  refine lv_topi (fun x_24 ex_24 => ?_)
  obtain rfl : x_24 = 8 := ex_24.trans (by decide)
  refine va_put (D := D) (ci := 9) (v := .int 8) (ty := .int) (C := RX9) (T := TX9) (N := 2) hx hb hts inX9 tyX9 tyX9_ok nmX9 hown hKN.1 hP hD hS 0 rfl rfl 1 (by decide) (hts _ tw_137) (fun _ h9 => h9) rfl (by decide +kernel) rfl rfl (Nat.le_of_ble_eq_true rfl) dX9_append_37 (fun H locs hP hD hS => ?_)
  have hP : va_P D vwCl [(h0, .inr (9, [.ref t_bytes, .int 8])), (t_bytes, .inl (cA 0, 800, .inl f_23))] H := hP
  have hD : va_D A [(h0, .inr (9, [.ref t_bytes, .int 8])), (t_bytes, .inl (cA 0, 800, .inl f_23))] := hD
  refine lv_iinc (v := (-8)) (lv' := [(2, .int (-8)), (0, .ref h0), (1, .int four)]) hx hb dX9_append_40 hl (k := 0) rfl (by decide) (by decide) rfl (fun ls hl => ?_)
  refine lv_goto (tgt := 3) hx hb dX9_append_43 (by decide) ?_
  refine lv_iload_n hx hb dX9_append_3 rfl (lv_at hl 0 rfl) ?_
  refine lv_if_lt (tgt := 46) hx hb dX9_append_4 (by decide) (fun c_25 => ?_) (fun c_25 => absurd (by decide) c_25)
  have hP9 := hP.sub (ws' := [(h0, .inr (9, [.ref t_bytes, .int 8])), (t_bytes, .inl (cA 0, 800, .inl f_23))]) [0, 1] rfl
  have hD9 := hD.sub (ws' := [(h0, .inr (9, [.ref t_bytes, .int 8])), (t_bytes, .inl (cA 0, 800, .inl f_23))]) [0, 1] (by decide) rfl
  exact W.vret hx hb hr (fun t ht hW => ⟨⟨((fun _ => 0), (fun _ => 0), (selF [f_23]), (fun _ _ => 0)), rfl, trivial, by rw [ht]; exact hP9, hD9⟩, hS.F ht⟩) hS.2.2 dX9_append_46
set_option maxHeartbeats 4000000 in
set_option maxRecDepth 100000 in
theorem k_X9_append_8 (l : Launch) (D : va_G) (cA : Nat → ClassId) (sz : Nat) (h0 : Nat) (t_bytes : Nat) (f : Nat → Int32) (four : Int32) : Met l yX9_append (Cond.code yX9_append cX9_append 3 none :: TB) (rmd 0 0 0) (PM D cA sz [(h0, .inr (9, [.ref t_bytes, .int 8])), (t_bytes, .inl (cA 0, 800, .inl f))] [.ref h0, .int four]) (va_Qv (fun _ : SU => True) (fun u t => va_P D vwCl [(h0, .inr (9, [.ref t_bytes, .int 12])), (t_bytes, .inl (cA 0, 800, .inl (u.2.2.1 0)))] t.heap ∧ va_D (va_A [(h0, .inr (9, [.ref t_bytes, .int 8])), (t_bytes, .inl (cA 0, 800, .inl f))] sz) [(h0, .inr (9, [.ref t_bytes, .int 12])), (t_bytes, .inl (cA 0, 800, .inl (u.2.2.1 0)))]) (va_A [(h0, .inr (9, [.ref t_bytes, .int 8])), (t_bytes, .inl (cA 0, 800, .inl f))] sz)) 0 0 (va_A [(h0, .inr (9, [.ref t_bytes, .int 8])), (t_bytes, .inl (cA 0, 800, .inl f))] sz) := by
  refine Met.ofW (cc := cX9_append) (maxL := 3) (ret := none) (by decide) rfl ?_
  intro p e s m args below meth c s₁ B hml hv
  obtain ⟨rfl, hsz, hP, hKN, hD0⟩ := hv
  have hx := B.exec
  have hb := B.bytes
  have hr := B.returns
  have hts : ∀ w ∈ TB, w.before _ s = true := fun w h => atoms_spec B.pre w (List.mem_cons_of_mem _ h)
  have hown : s.vm.findClass RX9 = some m.cls := findClass_of_methodNamed B.named
  have hlocks := B.notSynchronized
  subst hsz
  have hD := hD0.self (sz := s.heap.size)
  generalize hAe : va_A [(h0, .inr (9, [.ref t_bytes, .int 8])), (t_bytes, .inl (cA 0, 800, .inl f))] s.heap.size = A at hD ⊢
  have hA : ∀ q : Nat, s.heap.size ≤ q → A q := fun q h => by rw [← hAe]; exact Or.inr h
  have hS : va_S A s.heap s.heap [] := va_S.rf
  have hl := lv_entry ([.ref h0, .int four]) (n := 3) (Nat.le_of_ble_eq_true rfl)
  rw [lg_entry_eq]
  generalize (lg_sl ([.ref h0, .int four]) ++ List.replicate (3 - (lg_sl ([.ref h0, .int four])).length) Slot.unset).toArray = ls at hl ⊢
  have hl : lv_has ls 3 [(0, .ref h0), (1, .int four)] := hl
  refine lv_bipush (v := 24) hx hb dX9_append_0 (by decide) ?_
  refine lv_istore_n (lv' := [(2, .int 24), (0, .ref h0), (1, .int four)]) hx hb dX9_append_2 rfl hl (by decide) rfl (fun ls hl => ?_)
  refine lv_iload_n hx hb dX9_append_3 rfl (lv_at hl 0 rfl) ?_
  refine lv_if_lt (tgt := 46) hx hb dX9_append_4 (by decide) (fun c_1 => absurd c_1 (by decide)) (fun c_1 => ?_)
  refine lv_aload_n hx hb dX9_append_7 rfl (lv_at hl 1 rfl) ?_
  refine va_get (D := D) (ci := 9) (v := .int 8) (C := RX9) (T := TX9) (N := 2) hx hb hts inX9 hown hKN.1 hP 0 rfl rfl 1 (by decide) (hts _ tw_137) (fun _ h9 => h9) rfl dX9_append_8 ?_
  refine lv_sipush (v := 800) hx hb dX9_append_11 (by decide) ?_
  refine lv_icmp_ge (tgt := 40) hx hb dX9_append_14 (by decide) (fun c_2 => absurd c_2 (by decide)) (fun c_2 => ?_)
  refine lv_aload_n hx hb dX9_append_17 rfl (lv_at hl 1 rfl) ?_
  refine va_get (D := D) (ci := 9) (v := .ref t_bytes) (C := RX9) (T := TX9) (N := 2) hx hb hts inX9 hown hKN.1 hP 0 rfl rfl 0 (by decide) (hts _ tw_136) (fun _ h9 => h9) rfl dX9_append_18 ?_
  refine lv_aload_n hx hb dX9_append_21 rfl (lv_at hl 1 rfl) ?_
  refine va_get (D := D) (ci := 9) (v := .int 8) (C := RX9) (T := TX9) (N := 2) hx hb hts inX9 hown hKN.1 hP 0 rfl rfl 1 (by decide) (hts _ tw_137) (fun _ h9 => h9) rfl dX9_append_22 ?_
  refine lv_iload_n hx hb dX9_append_25 rfl (lv_at hl 2 rfl) ?_
  refine lv_iload_n hx hb dX9_append_26 rfl (lv_at hl 0 rfl) ?_
  refine lv_ishr hx hb dX9_append_27 ?_
  refine lv_topi (fun x_3 ex_3 => ?_)
  obtain ⟨x_4, ex_4⟩ : ∃ y, x_3.toInt8.toInt32 = y := ⟨_, rfl⟩
  refine lv_i2b (v := x_4) hx hb dX9_append_28 ex_4 ?_
  refine va_bast hx hb hKN.1 hP hD hS 1 0 rfl rfl (by unfold vp_in; decide) dX9_append_29 (fun H locs hP hD hS => ?_)
  have hP : va_P D vwCl [(h0, .inr (9, [.ref t_bytes, .int 8])), (t_bytes, .inl (cA 0, 800, .inl (upd f 8 (vp_nar .byte x_4))))] H := hP
  have hD : va_D A [(h0, .inr (9, [.ref t_bytes, .int 8])), (t_bytes, .inl (cA 0, 800, .inl (upd f 8 (vp_nar .byte x_4))))] := hD
  generalize ef_5 : (upd f 8 (vp_nar .byte x_4)) = f_5 at hP hD
  refine lv_aload_n hx hb dX9_append_30 rfl (lv_at hl 1 rfl) ?_
  refine lv_dup hx hb dX9_append_31 rfl ?_
  refine va_get (D := D) (ci := 9) (v := .int 8) (C := RX9) (T := TX9) (N := 2) hx hb hts inX9 hown hKN.1 hP 0 rfl rfl 1 (by decide) (hts _ tw_137) (fun _ h9 => h9) rfl dX9_append_32 ?_
  refine lv_iconst (v := 1) hx hb dX9_append_35 (by decide) ?_
  refine lv_iadd hx hb dX9_append_36 ?_
  refine lv_topi (fun x_6 ex_6 => ?_)
  obtain rfl : x_6 = 9 := ex_6.trans (by decide)
  refine va_put (D := D) (ci := 9) (v := .int 9) (ty := .int) (C := RX9) (T := TX9) (N := 2) hx hb hts inX9 tyX9 tyX9_ok nmX9 hown hKN.1 hP hD hS 0 rfl rfl 1 (by decide) (hts _ tw_137) (fun _ h9 => h9) rfl (by decide +kernel) rfl rfl (Nat.le_of_ble_eq_true rfl) dX9_append_37 (fun H locs hP hD hS => ?_)
  have hP : va_P D vwCl [(h0, .inr (9, [.ref t_bytes, .int 9])), (t_bytes, .inl (cA 0, 800, .inl f_5))] H := hP
  have hD : va_D A [(h0, .inr (9, [.ref t_bytes, .int 9])), (t_bytes, .inl (cA 0, 800, .inl f_5))] := hD
  refine lv_iinc (v := 16) (lv' := [(2, .int 16), (0, .ref h0), (1, .int four)]) hx hb dX9_append_40 hl (k := 0) rfl (by decide) (by decide) rfl (fun ls hl => ?_)
  refine lv_goto (tgt := 3) hx hb dX9_append_43 (by decide) ?_
  refine lv_iload_n hx hb dX9_append_3 rfl (lv_at hl 0 rfl) ?_
  refine lv_if_lt (tgt := 46) hx hb dX9_append_4 (by decide) (fun c_7 => absurd c_7 (by decide)) (fun c_7 => ?_)
  refine lv_aload_n hx hb dX9_append_7 rfl (lv_at hl 1 rfl) ?_
  refine va_get (D := D) (ci := 9) (v := .int 9) (C := RX9) (T := TX9) (N := 2) hx hb hts inX9 hown hKN.1 hP 0 rfl rfl 1 (by decide) (hts _ tw_137) (fun _ h9 => h9) rfl dX9_append_8 ?_
  refine lv_sipush (v := 800) hx hb dX9_append_11 (by decide) ?_
  refine lv_icmp_ge (tgt := 40) hx hb dX9_append_14 (by decide) (fun c_8 => absurd c_8 (by decide)) (fun c_8 => ?_)
  refine lv_aload_n hx hb dX9_append_17 rfl (lv_at hl 1 rfl) ?_
  refine va_get (D := D) (ci := 9) (v := .ref t_bytes) (C := RX9) (T := TX9) (N := 2) hx hb hts inX9 hown hKN.1 hP 0 rfl rfl 0 (by decide) (hts _ tw_136) (fun _ h9 => h9) rfl dX9_append_18 ?_
  refine lv_aload_n hx hb dX9_append_21 rfl (lv_at hl 1 rfl) ?_
  refine va_get (D := D) (ci := 9) (v := .int 9) (C := RX9) (T := TX9) (N := 2) hx hb hts inX9 hown hKN.1 hP 0 rfl rfl 1 (by decide) (hts _ tw_137) (fun _ h9 => h9) rfl dX9_append_22 ?_
  refine lv_iload_n hx hb dX9_append_25 rfl (lv_at hl 2 rfl) ?_
  refine lv_iload_n hx hb dX9_append_26 rfl (lv_at hl 0 rfl) ?_
  refine lv_ishr hx hb dX9_append_27 ?_
  refine lv_topi (fun x_9 ex_9 => ?_)
  obtain ⟨x_10, ex_10⟩ : ∃ y, x_9.toInt8.toInt32 = y := ⟨_, rfl⟩
  refine lv_i2b (v := x_10) hx hb dX9_append_28 ex_10 ?_
  refine va_bast hx hb hKN.1 hP hD hS 1 0 rfl rfl (by unfold vp_in; decide) dX9_append_29 (fun H locs hP hD hS => ?_)
  have hP : va_P D vwCl [(h0, .inr (9, [.ref t_bytes, .int 9])), (t_bytes, .inl (cA 0, 800, .inl (upd f_5 9 (vp_nar .byte x_10))))] H := hP
  have hD : va_D A [(h0, .inr (9, [.ref t_bytes, .int 9])), (t_bytes, .inl (cA 0, 800, .inl (upd f_5 9 (vp_nar .byte x_10))))] := hD
  generalize ef_11 : (upd f_5 9 (vp_nar .byte x_10)) = f_11 at hP hD
  refine lv_aload_n hx hb dX9_append_30 rfl (lv_at hl 1 rfl) ?_
  refine lv_dup hx hb dX9_append_31 rfl ?_
  refine va_get (D := D) (ci := 9) (v := .int 9) (C := RX9) (T := TX9) (N := 2) hx hb hts inX9 hown hKN.1 hP 0 rfl rfl 1 (by decide) (hts _ tw_137) (fun _ h9 => h9) rfl dX9_append_32 ?_
  refine lv_iconst (v := 1) hx hb dX9_append_35 (by decide) ?_
  refine lv_iadd hx hb dX9_append_36 ?_
  refine lv_topi (fun x_12 ex_12 => ?_)
  obtain rfl : x_12 = 10 := ex_12.trans (by decide)
  refine va_put (D := D) (ci := 9) (v := .int 10) (ty := .int) (C := RX9) (T := TX9) (N := 2) hx hb hts inX9 tyX9 tyX9_ok nmX9 hown hKN.1 hP hD hS 0 rfl rfl 1 (by decide) (hts _ tw_137) (fun _ h9 => h9) rfl (by decide +kernel) rfl rfl (Nat.le_of_ble_eq_true rfl) dX9_append_37 (fun H locs hP hD hS => ?_)
  have hP : va_P D vwCl [(h0, .inr (9, [.ref t_bytes, .int 10])), (t_bytes, .inl (cA 0, 800, .inl f_11))] H := hP
  have hD : va_D A [(h0, .inr (9, [.ref t_bytes, .int 10])), (t_bytes, .inl (cA 0, 800, .inl f_11))] := hD
  refine lv_iinc (v := 8) (lv' := [(2, .int 8), (0, .ref h0), (1, .int four)]) hx hb dX9_append_40 hl (k := 0) rfl (by decide) (by decide) rfl (fun ls hl => ?_)
  refine lv_goto (tgt := 3) hx hb dX9_append_43 (by decide) ?_
  refine lv_iload_n hx hb dX9_append_3 rfl (lv_at hl 0 rfl) ?_
  refine lv_if_lt (tgt := 46) hx hb dX9_append_4 (by decide) (fun c_13 => absurd c_13 (by decide)) (fun c_13 => ?_)
  refine lv_aload_n hx hb dX9_append_7 rfl (lv_at hl 1 rfl) ?_
  refine va_get (D := D) (ci := 9) (v := .int 10) (C := RX9) (T := TX9) (N := 2) hx hb hts inX9 hown hKN.1 hP 0 rfl rfl 1 (by decide) (hts _ tw_137) (fun _ h9 => h9) rfl dX9_append_8 ?_
  refine lv_sipush (v := 800) hx hb dX9_append_11 (by decide) ?_
  refine lv_icmp_ge (tgt := 40) hx hb dX9_append_14 (by decide) (fun c_14 => absurd c_14 (by decide)) (fun c_14 => ?_)
  refine lv_aload_n hx hb dX9_append_17 rfl (lv_at hl 1 rfl) ?_
  refine va_get (D := D) (ci := 9) (v := .ref t_bytes) (C := RX9) (T := TX9) (N := 2) hx hb hts inX9 hown hKN.1 hP 0 rfl rfl 0 (by decide) (hts _ tw_136) (fun _ h9 => h9) rfl dX9_append_18 ?_
  refine lv_aload_n hx hb dX9_append_21 rfl (lv_at hl 1 rfl) ?_
  refine va_get (D := D) (ci := 9) (v := .int 10) (C := RX9) (T := TX9) (N := 2) hx hb hts inX9 hown hKN.1 hP 0 rfl rfl 1 (by decide) (hts _ tw_137) (fun _ h9 => h9) rfl dX9_append_22 ?_
  refine lv_iload_n hx hb dX9_append_25 rfl (lv_at hl 2 rfl) ?_
  refine lv_iload_n hx hb dX9_append_26 rfl (lv_at hl 0 rfl) ?_
  refine lv_ishr hx hb dX9_append_27 ?_
  refine lv_topi (fun x_15 ex_15 => ?_)
  obtain ⟨x_16, ex_16⟩ : ∃ y, x_15.toInt8.toInt32 = y := ⟨_, rfl⟩
  refine lv_i2b (v := x_16) hx hb dX9_append_28 ex_16 ?_
  refine va_bast hx hb hKN.1 hP hD hS 1 0 rfl rfl (by unfold vp_in; decide) dX9_append_29 (fun H locs hP hD hS => ?_)
  have hP : va_P D vwCl [(h0, .inr (9, [.ref t_bytes, .int 10])), (t_bytes, .inl (cA 0, 800, .inl (upd f_11 10 (vp_nar .byte x_16))))] H := hP
  have hD : va_D A [(h0, .inr (9, [.ref t_bytes, .int 10])), (t_bytes, .inl (cA 0, 800, .inl (upd f_11 10 (vp_nar .byte x_16))))] := hD
  generalize ef_17 : (upd f_11 10 (vp_nar .byte x_16)) = f_17 at hP hD
  refine lv_aload_n hx hb dX9_append_30 rfl (lv_at hl 1 rfl) ?_
  refine lv_dup hx hb dX9_append_31 rfl ?_
  refine va_get (D := D) (ci := 9) (v := .int 10) (C := RX9) (T := TX9) (N := 2) hx hb hts inX9 hown hKN.1 hP 0 rfl rfl 1 (by decide) (hts _ tw_137) (fun _ h9 => h9) rfl dX9_append_32 ?_
  refine lv_iconst (v := 1) hx hb dX9_append_35 (by decide) ?_
  refine lv_iadd hx hb dX9_append_36 ?_
  refine lv_topi (fun x_18 ex_18 => ?_)
  obtain rfl : x_18 = 11 := ex_18.trans (by decide)
  refine va_put (D := D) (ci := 9) (v := .int 11) (ty := .int) (C := RX9) (T := TX9) (N := 2) hx hb hts inX9 tyX9 tyX9_ok nmX9 hown hKN.1 hP hD hS 0 rfl rfl 1 (by decide) (hts _ tw_137) (fun _ h9 => h9) rfl (by decide +kernel) rfl rfl (Nat.le_of_ble_eq_true rfl) dX9_append_37 (fun H locs hP hD hS => ?_)
  have hP : va_P D vwCl [(h0, .inr (9, [.ref t_bytes, .int 11])), (t_bytes, .inl (cA 0, 800, .inl f_17))] H := hP
  have hD : va_D A [(h0, .inr (9, [.ref t_bytes, .int 11])), (t_bytes, .inl (cA 0, 800, .inl f_17))] := hD
  refine lv_iinc (v := 0) (lv' := [(2, .int 0), (0, .ref h0), (1, .int four)]) hx hb dX9_append_40 hl (k := 0) rfl (by decide) (by decide) rfl (fun ls hl => ?_)
  refine lv_goto (tgt := 3) hx hb dX9_append_43 (by decide) ?_
  refine lv_iload_n hx hb dX9_append_3 rfl (lv_at hl 0 rfl) ?_
  refine lv_if_lt (tgt := 46) hx hb dX9_append_4 (by decide) (fun c_19 => absurd c_19 (by decide)) (fun c_19 => ?_)
  refine lv_aload_n hx hb dX9_append_7 rfl (lv_at hl 1 rfl) ?_
  refine va_get (D := D) (ci := 9) (v := .int 11) (C := RX9) (T := TX9) (N := 2) hx hb hts inX9 hown hKN.1 hP 0 rfl rfl 1 (by decide) (hts _ tw_137) (fun _ h9 => h9) rfl dX9_append_8 ?_
  refine lv_sipush (v := 800) hx hb dX9_append_11 (by decide) ?_
  refine lv_icmp_ge (tgt := 40) hx hb dX9_append_14 (by decide) (fun c_20 => absurd c_20 (by decide)) (fun c_20 => ?_)
  refine lv_aload_n hx hb dX9_append_17 rfl (lv_at hl 1 rfl) ?_
  refine va_get (D := D) (ci := 9) (v := .ref t_bytes) (C := RX9) (T := TX9) (N := 2) hx hb hts inX9 hown hKN.1 hP 0 rfl rfl 0 (by decide) (hts _ tw_136) (fun _ h9 => h9) rfl dX9_append_18 ?_
  refine lv_aload_n hx hb dX9_append_21 rfl (lv_at hl 1 rfl) ?_
  refine va_get (D := D) (ci := 9) (v := .int 11) (C := RX9) (T := TX9) (N := 2) hx hb hts inX9 hown hKN.1 hP 0 rfl rfl 1 (by decide) (hts _ tw_137) (fun _ h9 => h9) rfl dX9_append_22 ?_
  refine lv_iload_n hx hb dX9_append_25 rfl (lv_at hl 2 rfl) ?_
  refine lv_iload_n hx hb dX9_append_26 rfl (lv_at hl 0 rfl) ?_
  refine lv_ishr hx hb dX9_append_27 ?_
  refine lv_topi (fun x_21 ex_21 => ?_)
  obtain ⟨x_22, ex_22⟩ : ∃ y, x_21.toInt8.toInt32 = y := ⟨_, rfl⟩
  refine lv_i2b (v := x_22) hx hb dX9_append_28 ex_22 ?_
  refine va_bast hx hb hKN.1 hP hD hS 1 0 rfl rfl (by unfold vp_in; decide) dX9_append_29 (fun H locs hP hD hS => ?_)
  have hP : va_P D vwCl [(h0, .inr (9, [.ref t_bytes, .int 11])), (t_bytes, .inl (cA 0, 800, .inl (upd f_17 11 (vp_nar .byte x_22))))] H := hP
  have hD : va_D A [(h0, .inr (9, [.ref t_bytes, .int 11])), (t_bytes, .inl (cA 0, 800, .inl (upd f_17 11 (vp_nar .byte x_22))))] := hD
  generalize ef_23 : (upd f_17 11 (vp_nar .byte x_22)) = f_23 at hP hD
  refine lv_aload_n hx hb dX9_append_30 rfl (lv_at hl 1 rfl) ?_
  refine lv_dup hx hb dX9_append_31 rfl ?_
  refine va_get (D := D) (ci := 9) (v := .int 11) (C := RX9) (T := TX9) (N := 2) hx hb hts inX9 hown hKN.1 hP 0 rfl rfl 1 (by decide) (hts _ tw_137) (fun _ h9 => h9) rfl dX9_append_32 ?_
  refine lv_iconst (v := 1) hx hb dX9_append_35 (by decide) ?_
  refine lv_iadd hx hb dX9_append_36 ?_
  refine lv_topi (fun x_24 ex_24 => ?_)
  obtain rfl : x_24 = 12 := ex_24.trans (by decide)
  refine va_put (D := D) (ci := 9) (v := .int 12) (ty := .int) (C := RX9) (T := TX9) (N := 2) hx hb hts inX9 tyX9 tyX9_ok nmX9 hown hKN.1 hP hD hS 0 rfl rfl 1 (by decide) (hts _ tw_137) (fun _ h9 => h9) rfl (by decide +kernel) rfl rfl (Nat.le_of_ble_eq_true rfl) dX9_append_37 (fun H locs hP hD hS => ?_)
  have hP : va_P D vwCl [(h0, .inr (9, [.ref t_bytes, .int 12])), (t_bytes, .inl (cA 0, 800, .inl f_23))] H := hP
  have hD : va_D A [(h0, .inr (9, [.ref t_bytes, .int 12])), (t_bytes, .inl (cA 0, 800, .inl f_23))] := hD
  refine lv_iinc (v := (-8)) (lv' := [(2, .int (-8)), (0, .ref h0), (1, .int four)]) hx hb dX9_append_40 hl (k := 0) rfl (by decide) (by decide) rfl (fun ls hl => ?_)
  refine lv_goto (tgt := 3) hx hb dX9_append_43 (by decide) ?_
  refine lv_iload_n hx hb dX9_append_3 rfl (lv_at hl 0 rfl) ?_
  refine lv_if_lt (tgt := 46) hx hb dX9_append_4 (by decide) (fun c_25 => ?_) (fun c_25 => absurd (by decide) c_25)
  have hP9 := hP.sub (ws' := [(h0, .inr (9, [.ref t_bytes, .int 12])), (t_bytes, .inl (cA 0, 800, .inl f_23))]) [0, 1] rfl
  have hD9 := hD.sub (ws' := [(h0, .inr (9, [.ref t_bytes, .int 12])), (t_bytes, .inl (cA 0, 800, .inl f_23))]) [0, 1] (by decide) rfl
  exact W.vret hx hb hr (fun t ht hW => ⟨⟨((fun _ => 0), (fun _ => 0), (selF [f_23]), (fun _ _ => 0)), rfl, trivial, by rw [ht]; exact hP9, hD9⟩, hS.F ht⟩) hS.2.2 dX9_append_46
set_option maxHeartbeats 4000000 in
set_option maxRecDepth 100000 in
theorem k_X9_append_12 (l : Launch) (D : va_G) (cA : Nat → ClassId) (sz : Nat) (h0 : Nat) (t_bytes : Nat) (f : Nat → Int32) (four : Int32) : Met l yX9_append (Cond.code yX9_append cX9_append 3 none :: TB) (rmd 0 0 0) (PM D cA sz [(h0, .inr (9, [.ref t_bytes, .int 12])), (t_bytes, .inl (cA 0, 800, .inl f))] [.ref h0, .int four]) (va_Qv (fun _ : SU => True) (fun u t => va_P D vwCl [(h0, .inr (9, [.ref t_bytes, .int 16])), (t_bytes, .inl (cA 0, 800, .inl (u.2.2.1 0)))] t.heap ∧ va_D (va_A [(h0, .inr (9, [.ref t_bytes, .int 12])), (t_bytes, .inl (cA 0, 800, .inl f))] sz) [(h0, .inr (9, [.ref t_bytes, .int 16])), (t_bytes, .inl (cA 0, 800, .inl (u.2.2.1 0)))]) (va_A [(h0, .inr (9, [.ref t_bytes, .int 12])), (t_bytes, .inl (cA 0, 800, .inl f))] sz)) 0 0 (va_A [(h0, .inr (9, [.ref t_bytes, .int 12])), (t_bytes, .inl (cA 0, 800, .inl f))] sz) := by
  refine Met.ofW (cc := cX9_append) (maxL := 3) (ret := none) (by decide) rfl ?_
  intro p e s m args below meth c s₁ B hml hv
  obtain ⟨rfl, hsz, hP, hKN, hD0⟩ := hv
  have hx := B.exec
  have hb := B.bytes
  have hr := B.returns
  have hts : ∀ w ∈ TB, w.before _ s = true := fun w h => atoms_spec B.pre w (List.mem_cons_of_mem _ h)
  have hown : s.vm.findClass RX9 = some m.cls := findClass_of_methodNamed B.named
  have hlocks := B.notSynchronized
  subst hsz
  have hD := hD0.self (sz := s.heap.size)
  generalize hAe : va_A [(h0, .inr (9, [.ref t_bytes, .int 12])), (t_bytes, .inl (cA 0, 800, .inl f))] s.heap.size = A at hD ⊢
  have hA : ∀ q : Nat, s.heap.size ≤ q → A q := fun q h => by rw [← hAe]; exact Or.inr h
  have hS : va_S A s.heap s.heap [] := va_S.rf
  have hl := lv_entry ([.ref h0, .int four]) (n := 3) (Nat.le_of_ble_eq_true rfl)
  rw [lg_entry_eq]
  generalize (lg_sl ([.ref h0, .int four]) ++ List.replicate (3 - (lg_sl ([.ref h0, .int four])).length) Slot.unset).toArray = ls at hl ⊢
  have hl : lv_has ls 3 [(0, .ref h0), (1, .int four)] := hl
  refine lv_bipush (v := 24) hx hb dX9_append_0 (by decide) ?_
  refine lv_istore_n (lv' := [(2, .int 24), (0, .ref h0), (1, .int four)]) hx hb dX9_append_2 rfl hl (by decide) rfl (fun ls hl => ?_)
  refine lv_iload_n hx hb dX9_append_3 rfl (lv_at hl 0 rfl) ?_
  refine lv_if_lt (tgt := 46) hx hb dX9_append_4 (by decide) (fun c_1 => absurd c_1 (by decide)) (fun c_1 => ?_)
  refine lv_aload_n hx hb dX9_append_7 rfl (lv_at hl 1 rfl) ?_
  refine va_get (D := D) (ci := 9) (v := .int 12) (C := RX9) (T := TX9) (N := 2) hx hb hts inX9 hown hKN.1 hP 0 rfl rfl 1 (by decide) (hts _ tw_137) (fun _ h9 => h9) rfl dX9_append_8 ?_
  refine lv_sipush (v := 800) hx hb dX9_append_11 (by decide) ?_
  refine lv_icmp_ge (tgt := 40) hx hb dX9_append_14 (by decide) (fun c_2 => absurd c_2 (by decide)) (fun c_2 => ?_)
  refine lv_aload_n hx hb dX9_append_17 rfl (lv_at hl 1 rfl) ?_
  refine va_get (D := D) (ci := 9) (v := .ref t_bytes) (C := RX9) (T := TX9) (N := 2) hx hb hts inX9 hown hKN.1 hP 0 rfl rfl 0 (by decide) (hts _ tw_136) (fun _ h9 => h9) rfl dX9_append_18 ?_
  refine lv_aload_n hx hb dX9_append_21 rfl (lv_at hl 1 rfl) ?_
  refine va_get (D := D) (ci := 9) (v := .int 12) (C := RX9) (T := TX9) (N := 2) hx hb hts inX9 hown hKN.1 hP 0 rfl rfl 1 (by decide) (hts _ tw_137) (fun _ h9 => h9) rfl dX9_append_22 ?_
  refine lv_iload_n hx hb dX9_append_25 rfl (lv_at hl 2 rfl) ?_
  refine lv_iload_n hx hb dX9_append_26 rfl (lv_at hl 0 rfl) ?_
  refine lv_ishr hx hb dX9_append_27 ?_
  refine lv_topi (fun x_3 ex_3 => ?_)
  obtain ⟨x_4, ex_4⟩ : ∃ y, x_3.toInt8.toInt32 = y := ⟨_, rfl⟩
  refine lv_i2b (v := x_4) hx hb dX9_append_28 ex_4 ?_
  refine va_bast hx hb hKN.1 hP hD hS 1 0 rfl rfl (by unfold vp_in; decide) dX9_append_29 (fun H locs hP hD hS => ?_)
  have hP : va_P D vwCl [(h0, .inr (9, [.ref t_bytes, .int 12])), (t_bytes, .inl (cA 0, 800, .inl (upd f 12 (vp_nar .byte x_4))))] H := hP
  have hD : va_D A [(h0, .inr (9, [.ref t_bytes, .int 12])), (t_bytes, .inl (cA 0, 800, .inl (upd f 12 (vp_nar .byte x_4))))] := hD
  generalize ef_5 : (upd f 12 (vp_nar .byte x_4)) = f_5 at hP hD
  refine lv_aload_n hx hb dX9_append_30 rfl (lv_at hl 1 rfl) ?_
  refine lv_dup hx hb dX9_append_31 rfl ?_
  refine va_get (D := D) (ci := 9) (v := .int 12) (C := RX9) (T := TX9) (N := 2) hx hb hts inX9 hown hKN.1 hP 0 rfl rfl 1 (by decide) (hts _ tw_137) (fun _ h9 => h9) rfl dX9_append_32 ?_
  refine lv_iconst (v := 1) hx hb dX9_append_35 (by decide) ?_
  refine lv_iadd hx hb dX9_append_36 ?_
  refine lv_topi (fun x_6 ex_6 => ?_)
  obtain rfl : x_6 = 13 := ex_6.trans (by decide)
  refine va_put (D := D) (ci := 9) (v := .int 13) (ty := .int) (C := RX9) (T := TX9) (N := 2) hx hb hts inX9 tyX9 tyX9_ok nmX9 hown hKN.1 hP hD hS 0 rfl rfl 1 (by decide) (hts _ tw_137) (fun _ h9 => h9) rfl (by decide +kernel) rfl rfl (Nat.le_of_ble_eq_true rfl) dX9_append_37 (fun H locs hP hD hS => ?_)
  have hP : va_P D vwCl [(h0, .inr (9, [.ref t_bytes, .int 13])), (t_bytes, .inl (cA 0, 800, .inl f_5))] H := hP
  have hD : va_D A [(h0, .inr (9, [.ref t_bytes, .int 13])), (t_bytes, .inl (cA 0, 800, .inl f_5))] := hD
  refine lv_iinc (v := 16) (lv' := [(2, .int 16), (0, .ref h0), (1, .int four)]) hx hb dX9_append_40 hl (k := 0) rfl (by decide) (by decide) rfl (fun ls hl => ?_)
  refine lv_goto (tgt := 3) hx hb dX9_append_43 (by decide) ?_
  refine lv_iload_n hx hb dX9_append_3 rfl (lv_at hl 0 rfl) ?_
  refine lv_if_lt (tgt := 46) hx hb dX9_append_4 (by decide) (fun c_7 => absurd c_7 (by decide)) (fun c_7 => ?_)
  refine lv_aload_n hx hb dX9_append_7 rfl (lv_at hl 1 rfl) ?_
  refine va_get (D := D) (ci := 9) (v := .int 13) (C := RX9) (T := TX9) (N := 2) hx hb hts inX9 hown hKN.1 hP 0 rfl rfl 1 (by decide) (hts _ tw_137) (fun _ h9 => h9) rfl dX9_append_8 ?_
  refine lv_sipush (v := 800) hx hb dX9_append_11 (by decide) ?_
  refine lv_icmp_ge (tgt := 40) hx hb dX9_append_14 (by decide) (fun c_8 => absurd c_8 (by decide)) (fun c_8 => ?_)
  refine lv_aload_n hx hb dX9_append_17 rfl (lv_at hl 1 rfl) ?_
  refine va_get (D := D) (ci := 9) (v := .ref t_bytes) (C := RX9) (T := TX9) (N := 2) hx hb hts inX9 hown hKN.1 hP 0 rfl rfl 0 (by decide) (hts _ tw_136) (fun _ h9 => h9) rfl dX9_append_18 ?_
  refine lv_aload_n hx hb dX9_append_21 rfl (lv_at hl 1 rfl) ?_
  refine va_get (D := D) (ci := 9) (v := .int 13) (C := RX9) (T := TX9) (N := 2) hx hb hts inX9 hown hKN.1 hP 0 rfl rfl 1 (by decide) (hts _ tw_137) (fun _ h9 => h9) rfl dX9_append_22 ?_
  refine lv_iload_n hx hb dX9_append_25 rfl (lv_at hl 2 rfl) ?_
  refine lv_iload_n hx hb dX9_append_26 rfl (lv_at hl 0 rfl) ?_
  refine lv_ishr hx hb dX9_append_27 ?_
  refine lv_topi (fun x_9 ex_9 => ?_)
  obtain ⟨x_10, ex_10⟩ : ∃ y, x_9.toInt8.toInt32 = y := ⟨_, rfl⟩
  refine lv_i2b (v := x_10) hx hb dX9_append_28 ex_10 ?_
  refine va_bast hx hb hKN.1 hP hD hS 1 0 rfl rfl (by unfold vp_in; decide) dX9_append_29 (fun H locs hP hD hS => ?_)
  have hP : va_P D vwCl [(h0, .inr (9, [.ref t_bytes, .int 13])), (t_bytes, .inl (cA 0, 800, .inl (upd f_5 13 (vp_nar .byte x_10))))] H := hP
  have hD : va_D A [(h0, .inr (9, [.ref t_bytes, .int 13])), (t_bytes, .inl (cA 0, 800, .inl (upd f_5 13 (vp_nar .byte x_10))))] := hD
  generalize ef_11 : (upd f_5 13 (vp_nar .byte x_10)) = f_11 at hP hD
  refine lv_aload_n hx hb dX9_append_30 rfl (lv_at hl 1 rfl) ?_
  refine lv_dup hx hb dX9_append_31 rfl ?_
  refine va_get (D := D) (ci := 9) (v := .int 13) (C := RX9) (T := TX9) (N := 2) hx hb hts inX9 hown hKN.1 hP 0 rfl rfl 1 (by decide) (hts _ tw_137) (fun _ h9 => h9) rfl dX9_append_32 ?_
  refine lv_iconst (v := 1) hx hb dX9_append_35 (by decide) ?_
  refine lv_iadd hx hb dX9_append_36 ?_
  refine lv_topi (fun x_12 ex_12 => ?_)
  obtain rfl : x_12 = 14 := ex_12.trans (by decide)
  refine va_put (D := D) (ci := 9) (v := .int 14) (ty := .int) (C := RX9) (T := TX9) (N := 2) hx hb hts inX9 tyX9 tyX9_ok nmX9 hown hKN.1 hP hD hS 0 rfl rfl 1 (by decide) (hts _ tw_137) (fun _ h9 => h9) rfl (by decide +kernel) rfl rfl (Nat.le_of_ble_eq_true rfl) dX9_append_37 (fun H locs hP hD hS => ?_)
  have hP : va_P D vwCl [(h0, .inr (9, [.ref t_bytes, .int 14])), (t_bytes, .inl (cA 0, 800, .inl f_11))] H := hP
  have hD : va_D A [(h0, .inr (9, [.ref t_bytes, .int 14])), (t_bytes, .inl (cA 0, 800, .inl f_11))] := hD
  refine lv_iinc (v := 8) (lv' := [(2, .int 8), (0, .ref h0), (1, .int four)]) hx hb dX9_append_40 hl (k := 0) rfl (by decide) (by decide) rfl (fun ls hl => ?_)
  refine lv_goto (tgt := 3) hx hb dX9_append_43 (by decide) ?_
  refine lv_iload_n hx hb dX9_append_3 rfl (lv_at hl 0 rfl) ?_
  refine lv_if_lt (tgt := 46) hx hb dX9_append_4 (by decide) (fun c_13 => absurd c_13 (by decide)) (fun c_13 => ?_)
  refine lv_aload_n hx hb dX9_append_7 rfl (lv_at hl 1 rfl) ?_
  refine va_get (D := D) (ci := 9) (v := .int 14) (C := RX9) (T := TX9) (N := 2) hx hb hts inX9 hown hKN.1 hP 0 rfl rfl 1 (by decide) (hts _ tw_137) (fun _ h9 => h9) rfl dX9_append_8 ?_
  refine lv_sipush (v := 800) hx hb dX9_append_11 (by decide) ?_
  refine lv_icmp_ge (tgt := 40) hx hb dX9_append_14 (by decide) (fun c_14 => absurd c_14 (by decide)) (fun c_14 => ?_)
  refine lv_aload_n hx hb dX9_append_17 rfl (lv_at hl 1 rfl) ?_
  refine va_get (D := D) (ci := 9) (v := .ref t_bytes) (C := RX9) (T := TX9) (N := 2) hx hb hts inX9 hown hKN.1 hP 0 rfl rfl 0 (by decide) (hts _ tw_136) (fun _ h9 => h9) rfl dX9_append_18 ?_
  refine lv_aload_n hx hb dX9_append_21 rfl (lv_at hl 1 rfl) ?_
  refine va_get (D := D) (ci := 9) (v := .int 14) (C := RX9) (T := TX9) (N := 2) hx hb hts inX9 hown hKN.1 hP 0 rfl rfl 1 (by decide) (hts _ tw_137) (fun _ h9 => h9) rfl dX9_append_22 ?_
  refine lv_iload_n hx hb dX9_append_25 rfl (lv_at hl 2 rfl) ?_
  refine lv_iload_n hx hb dX9_append_26 rfl (lv_at hl 0 rfl) ?_
  refine lv_ishr hx hb dX9_append_27 ?_
  refine lv_topi (fun x_15 ex_15 => ?_)
  obtain ⟨x_16, ex_16⟩ : ∃ y, x_15.toInt8.toInt32 = y := ⟨_, rfl⟩
  refine lv_i2b (v := x_16) hx hb dX9_append_28 ex_16 ?_
  refine va_bast hx hb hKN.1 hP hD hS 1 0 rfl rfl (by unfold vp_in; decide) dX9_append_29 (fun H locs hP hD hS => ?_)
  have hP : va_P D vwCl [(h0, .inr (9, [.ref t_bytes, .int 14])), (t_bytes, .inl (cA 0, 800, .inl (upd f_11 14 (vp_nar .byte x_16))))] H := hP
  have hD : va_D A [(h0, .inr (9, [.ref t_bytes, .int 14])), (t_bytes, .inl (cA 0, 800, .inl (upd f_11 14 (vp_nar .byte x_16))))] := hD
  generalize ef_17 : (upd f_11 14 (vp_nar .byte x_16)) = f_17 at hP hD
  refine lv_aload_n hx hb dX9_append_30 rfl (lv_at hl 1 rfl) ?_
  refine lv_dup hx hb dX9_append_31 rfl ?_
  refine va_get (D := D) (ci := 9) (v := .int 14) (C := RX9) (T := TX9) (N := 2) hx hb hts inX9 hown hKN.1 hP 0 rfl rfl 1 (by decide) (hts _ tw_137) (fun _ h9 => h9) rfl dX9_append_32 ?_
  refine lv_iconst (v := 1) hx hb dX9_append_35 (by decide) ?_
  refine lv_iadd hx hb dX9_append_36 ?_
  refine lv_topi (fun x_18 ex_18 => ?_)
  obtain rfl : x_18 = 15 := ex_18.trans (by decide)
  refine va_put (D := D) (ci := 9) (v := .int 15) (ty := .int) (C := RX9) (T := TX9) (N := 2) hx hb hts inX9 tyX9 tyX9_ok nmX9 hown hKN.1 hP hD hS 0 rfl rfl 1 (by decide) (hts _ tw_137) (fun _ h9 => h9) rfl (by decide +kernel) rfl rfl (Nat.le_of_ble_eq_true rfl) dX9_append_37 (fun H locs hP hD hS => ?_)
  have hP : va_P D vwCl [(h0, .inr (9, [.ref t_bytes, .int 15])), (t_bytes, .inl (cA 0, 800, .inl f_17))] H := hP
  have hD : va_D A [(h0, .inr (9, [.ref t_bytes, .int 15])), (t_bytes, .inl (cA 0, 800, .inl f_17))] := hD
  refine lv_iinc (v := 0) (lv' := [(2, .int 0), (0, .ref h0), (1, .int four)]) hx hb dX9_append_40 hl (k := 0) rfl (by decide) (by decide) rfl (fun ls hl => ?_)
  refine lv_goto (tgt := 3) hx hb dX9_append_43 (by decide) ?_
  refine lv_iload_n hx hb dX9_append_3 rfl (lv_at hl 0 rfl) ?_
  refine lv_if_lt (tgt := 46) hx hb dX9_append_4 (by decide) (fun c_19 => absurd c_19 (by decide)) (fun c_19 => ?_)
  refine lv_aload_n hx hb dX9_append_7 rfl (lv_at hl 1 rfl) ?_
  refine va_get (D := D) (ci := 9) (v := .int 15) (C := RX9) (T := TX9) (N := 2) hx hb hts inX9 hown hKN.1 hP 0 rfl rfl 1 (by decide) (hts _ tw_137) (fun _ h9 => h9) rfl dX9_append_8 ?_
  refine lv_sipush (v := 800) hx hb dX9_append_11 (by decide) ?_
  refine lv_icmp_ge (tgt := 40) hx hb dX9_append_14 (by decide) (fun c_20 => absurd c_20 (by decide)) (fun c_20 => ?_)
  refine lv_aload_n hx hb dX9_append_17 rfl (lv_at hl 1 rfl) ?_
  refine va_get (D := D) (ci := 9) (v := .ref t_bytes) (C := RX9) (T := TX9) (N := 2) hx hb hts inX9 hown hKN.1 hP 0 rfl rfl 0 (by decide) (hts _ tw_136) (fun _ h9 => h9) rfl dX9_append_18 ?_
  refine lv_aload_n hx hb dX9_append_21 rfl (lv_at hl 1 rfl) ?_
  refine va_get (D := D) (ci := 9) (v := .int 15) (C := RX9) (T := TX9) (N := 2) hx hb hts inX9 hown hKN.1 hP 0 rfl rfl 1 (by decide) (hts _ tw_137) (fun _ h9 => h9) rfl dX9_append_22 ?_
  refine lv_iload_n hx hb dX9_append_25 rfl (lv_at hl 2 rfl) ?_
  refine lv_iload_n hx hb dX9_append_26 rfl (lv_at hl 0 rfl) ?_
  refine lv_ishr hx hb dX9_append_27 ?_
  refine lv_topi (fun x_21 ex_21 => ?_)
  obtain ⟨x_22, ex_22⟩ : ∃ y, x_21.toInt8.toInt32 = y := ⟨_, rfl⟩
  refine lv_i2b (v := x_22) hx hb dX9_append_28 ex_22 ?_
  refine va_bast hx hb hKN.1 hP hD hS 1 0 rfl rfl (by unfold vp_in; decide) dX9_append_29 (fun H locs hP hD hS => ?_)
  have hP : va_P D vwCl [(h0, .inr (9, [.ref t_bytes, .int 15])), (t_bytes, .inl (cA 0, 800, .inl (upd f_17 15 (vp_nar .byte x_22))))] H := hP
  have hD : va_D A [(h0, .inr (9, [.ref t_bytes, .int 15])), (t_bytes, .inl (cA 0, 800, .inl (upd f_17 15 (vp_nar .byte x_22))))] := hD
  generalize ef_23 : (upd f_17 15 (vp_nar .byte x_22)) = f_23 at hP hD
  refine lv_aload_n hx hb dX9_append_30 rfl (lv_at hl 1 rfl) ?_
  refine lv_dup hx hb dX9_append_31 rfl ?_
  refine va_get (D := D) (ci := 9) (v := .int 15) (C := RX9) (T := TX9) (N := 2) hx hb hts inX9 hown hKN.1 hP 0 rfl rfl 1 (by decide) (hts _ tw_137) (fun _ h9 => h9) rfl dX9_append_32 ?_
  refine lv_iconst (v := 1) hx hb dX9_append_35 (by decide) ?_
  refine lv_iadd hx hb dX9_append_36 ?_
  refine lv_topi (fun x_24 ex_24 => ?_)
  obtain rfl : x_24 = 16 := ex_24.trans (by decide)
  refine va_put (D := D) (ci := 9) (v := .int 16) (ty := .int) (C := RX9) (T := TX9) (N := 2) hx hb hts inX9 tyX9 tyX9_ok nmX9 hown hKN.1 hP hD hS 0 rfl rfl 1 (by decide) (hts _ tw_137) (fun _ h9 => h9) rfl (by decide +kernel) rfl rfl (Nat.le_of_ble_eq_true rfl) dX9_append_37 (fun H locs hP hD hS => ?_)
  have hP : va_P D vwCl [(h0, .inr (9, [.ref t_bytes, .int 16])), (t_bytes, .inl (cA 0, 800, .inl f_23))] H := hP
  have hD : va_D A [(h0, .inr (9, [.ref t_bytes, .int 16])), (t_bytes, .inl (cA 0, 800, .inl f_23))] := hD
  refine lv_iinc (v := (-8)) (lv' := [(2, .int (-8)), (0, .ref h0), (1, .int four)]) hx hb dX9_append_40 hl (k := 0) rfl (by decide) (by decide) rfl (fun ls hl => ?_)
  refine lv_goto (tgt := 3) hx hb dX9_append_43 (by decide) ?_
  refine lv_iload_n hx hb dX9_append_3 rfl (lv_at hl 0 rfl) ?_
  refine lv_if_lt (tgt := 46) hx hb dX9_append_4 (by decide) (fun c_25 => ?_) (fun c_25 => absurd (by decide) c_25)
  have hP9 := hP.sub (ws' := [(h0, .inr (9, [.ref t_bytes, .int 16])), (t_bytes, .inl (cA 0, 800, .inl f_23))]) [0, 1] rfl
  have hD9 := hD.sub (ws' := [(h0, .inr (9, [.ref t_bytes, .int 16])), (t_bytes, .inl (cA 0, 800, .inl f_23))]) [0, 1] (by decide) rfl
  exact W.vret hx hb hr (fun t ht hW => ⟨⟨((fun _ => 0), (fun _ => 0), (selF [f_23]), (fun _ _ => 0)), rfl, trivial, by rw [ht]; exact hP9, hD9⟩, hS.F ht⟩) hS.2.2 dX9_append_46
set_option maxHeartbeats 4000000 in
set_option maxRecDepth 100000 in
theorem k_X9_append_16 (l : Launch) (D : va_G) (cA : Nat → ClassId) (sz : Nat) (h0 : Nat) (t_bytes : Nat) (f : Nat → Int32) (four : Int32) : Met l yX9_append (Cond.code yX9_append cX9_append 3 none :: TB) (rmd 0 0 0) (PM D cA sz [(h0, .inr (9, [.ref t_bytes, .int 16])), (t_bytes, .inl (cA 0, 800, .inl f))] [.ref h0, .int four]) (va_Qv (fun _ : SU => True) (fun u t => va_P D vwCl [(h0, .inr (9, [.ref t_bytes, .int 20])), (t_bytes, .inl (cA 0, 800, .inl (u.2.2.1 0)))] t.heap ∧ va_D (va_A [(h0, .inr (9, [.ref t_bytes, .int 16])), (t_bytes, .inl (cA 0, 800, .inl f))] sz) [(h0, .inr (9, [.ref t_bytes, .int 20])), (t_bytes, .inl (cA 0, 800, .inl (u.2.2.1 0)))]) (va_A [(h0, .inr (9, [.ref t_bytes, .int 16])), (t_bytes, .inl (cA 0, 800, .inl f))] sz)) 0 0 (va_A [(h0, .inr (9, [.ref t_bytes, .int 16])), (t_bytes, .inl (cA 0, 800, .inl f))] sz) := by
  refine Met.ofW (cc := cX9_append) (maxL := 3) (ret := none) (by decide) rfl ?_
  intro p e s m args below meth c s₁ B hml hv
  obtain ⟨rfl, hsz, hP, hKN, hD0⟩ := hv
  have hx := B.exec
  have hb := B.bytes
  have hr := B.returns
  have hts : ∀ w ∈ TB, w.before _ s = true := fun w h => atoms_spec B.pre w (List.mem_cons_of_mem _ h)
  have hown : s.vm.findClass RX9 = some m.cls := findClass_of_methodNamed B.named
  have hlocks := B.notSynchronized
  subst hsz
  have hD := hD0.self (sz := s.heap.size)
  generalize hAe : va_A [(h0, .inr (9, [.ref t_bytes, .int 16])), (t_bytes, .inl (cA 0, 800, .inl f))] s.heap.size = A at hD ⊢
  have hA : ∀ q : Nat, s.heap.size ≤ q → A q := fun q h => by rw [← hAe]; exact Or.inr h
  have hS : va_S A s.heap s.heap [] := va_S.rf
  have hl := lv_entry ([.ref h0, .int four]) (n := 3) (Nat.le_of_ble_eq_true rfl)
  rw [lg_entry_eq]
  generalize (lg_sl ([.ref h0, .int four]) ++ List.replicate (3 - (lg_sl ([.ref h0, .int four])).length) Slot.unset).toArray = ls at hl ⊢
  have hl : lv_has ls 3 [(0, .ref h0), (1, .int four)] := hl
  refine lv_bipush (v := 24) hx hb dX9_append_0 (by decide) ?_
  refine lv_istore_n (lv' := [(2, .int 24), (0, .ref h0), (1, .int four)]) hx hb dX9_append_2 rfl hl (by decide) rfl (fun ls hl => ?_)
  refine lv_iload_n hx hb dX9_append_3 rfl (lv_at hl 0 rfl) ?_
  refine lv_if_lt (tgt := 46) hx hb dX9_append_4 (by decide) (fun c_1 => absurd c_1 (by decide)) (fun c_1 => ?_)
  refine lv_aload_n hx hb dX9_append_7 rfl (lv_at hl 1 rfl) ?_
  refine va_get (D := D) (ci := 9) (v := .int 16) (C := RX9) (T := TX9) (N := 2) hx hb hts inX9 hown hKN.1 hP 0 rfl rfl 1 (by decide) (hts _ tw_137) (fun _ h9 => h9) rfl dX9_append_8 ?_
  refine lv_sipush (v := 800) hx hb dX9_append_11 (by decide) ?_
  refine lv_icmp_ge (tgt := 40) hx hb dX9_append_14 (by decide) (fun c_2 => absurd c_2 (by decide)) (fun c_2 => ?_)
  refine lv_aload_n hx hb dX9_append_17 rfl (lv_at hl 1 rfl) ?_
  refine va_get (D := D) (ci := 9) (v := .ref t_bytes) (C := RX9) (T := TX9) (N := 2) hx hb hts inX9 hown hKN.1 hP 0 rfl rfl 0 (by decide) (hts _ tw_136) (fun _ h9 => h9) rfl dX9_append_18 ?_
  refine lv_aload_n hx hb dX9_append_21 rfl (lv_at hl 1 rfl) ?_
  refine va_get (D := D) (ci := 9) (v := .int 16) (C := RX9) (T := TX9) (N := 2) hx hb hts inX9 hown hKN.1 hP 0 rfl rfl 1 (by decide) (hts _ tw_137) (fun _ h9 => h9) rfl dX9_append_22 ?_
  refine lv_iload_n hx hb dX9_append_25 rfl (lv_at hl 2 rfl) ?_
  refine lv_iload_n hx hb dX9_append_26 rfl (lv_at hl 0 rfl) ?_
  refine lv_ishr hx hb dX9_append_27 ?_
  refine lv_topi (fun x_3 ex_3 => ?_)
  obtain ⟨x_4, ex_4⟩ : ∃ y, x_3.toInt8.toInt32 = y := ⟨_, rfl⟩
  refine lv_i2b (v := x_4) hx hb dX9_append_28 ex_4 ?_
  refine va_bast hx hb hKN.1 hP hD hS 1 0 rfl rfl (by unfold vp_in; decide) dX9_append_29 (fun H locs hP hD hS => ?_)
  have hP : va_P D vwCl [(h0, .inr (9, [.ref t_bytes, .int 16])), (t_bytes, .inl (cA 0, 800, .inl (upd f 16 (vp_nar .byte x_4))))] H := hP
  have hD : va_D A [(h0, .inr (9, [.ref t_bytes, .int 16])), (t_bytes, .inl (cA 0, 800, .inl (upd f 16 (vp_nar .byte x_4))))] := hD
  generalize ef_5 : (upd f 16 (vp_nar .byte x_4)) = f_5 at hP hD
  refine lv_aload_n hx hb dX9_append_30 rfl (lv_at hl 1 rfl) ?_
  refine lv_dup hx hb dX9_append_31 rfl ?_
  refine va_get (D := D) (ci := 9) (v := .int 16) (C := RX9) (T := TX9) (N := 2) hx hb hts inX9 hown hKN.1 hP 0 rfl rfl 1 (by decide) (hts _ tw_137) (fun _ h9 => h9) rfl dX9_append_32 ?_
  refine lv_iconst (v := 1) hx hb dX9_append_35 (by decide) ?_
  refine lv_iadd hx hb dX9_append_36 ?_
  refine lv_topi (fun x_6 ex_6 => ?_)
  obtain rfl : x_6 = 17 := ex_6.trans (by decide)
  refine va_put (D := D) (ci := 9) (v := .int 17) (ty := .int) (C := RX9) (T := TX9) (N := 2) hx hb hts inX9 tyX9 tyX9_ok nmX9 hown hKN.1 hP hD hS 0 rfl rfl 1 (by decide) (hts _ tw_137) (fun _ h9 => h9) rfl (by decide +kernel) rfl rfl (Nat.le_of_ble_eq_true rfl) dX9_append_37 (fun H locs hP hD hS => ?_)
  have hP : va_P D vwCl [(h0, .inr (9, [.ref t_bytes, .int 17])), (t_bytes, .inl (cA 0, 800, .inl f_5))] H := hP
  have hD : va_D A [(h0, .inr (9, [.ref t_bytes, .int 17])), (t_bytes, .inl (cA 0, 800, .inl f_5))] := hD
  refine lv_iinc (v := 16) (lv' := [(2, .int 16), (0, .ref h0), (1, .int four)]) hx hb dX9_append_40 hl (k := 0) rfl (by decide) (by decide) rfl (fun ls hl => ?_)
  refine lv_goto (tgt := 3) hx hb dX9_append_43 (by decide) ?_
  refine lv_iload_n hx hb dX9_append_3 rfl (lv_at hl 0 rfl) ?_
  refine lv_if_lt (tgt := 46) hx hb dX9_append_4 (by decide) (fun c_7 => absurd c_7 (by decide)) (fun c_7 => ?_)
  refine lv_aload_n hx hb dX9_append_7 rfl (lv_at hl 1 rfl) ?_
  refine va_get (D := D) (ci := 9) (v := .int 17) (C := RX9) (T := TX9) (N := 2) hx hb hts inX9 hown hKN.1 hP 0 rfl rfl 1 (by decide) (hts _ tw_137) (fun _ h9 => h9) rfl dX9_append_8 ?_
  refine lv_sipush (v := 800) hx hb dX9_append_11 (by decide) ?_
  refine lv_icmp_ge (tgt := 40) hx hb dX9_append_14 (by decide) (fun c_8 => absurd c_8 (by decide)) (fun c_8 => ?_)
  refine lv_aload_n hx hb dX9_append_17 rfl (lv_at hl 1 rfl) ?_
  refine va_get (D := D) (ci := 9) (v := .ref t_bytes) (C := RX9) (T := TX9) (N := 2) hx hb hts inX9 hown hKN.1 hP 0 rfl rfl 0 (by decide) (hts _ tw_136) (fun _ h9 => h9) rfl dX9_append_18 ?_
  refine lv_aload_n hx hb dX9_append_21 rfl (lv_at hl 1 rfl) ?_
  refine va_get (D := D) (ci := 9) (v := .int 17) (C := RX9) (T := TX9) (N := 2) hx hb hts inX9 hown hKN.1 hP 0 rfl rfl 1 (by decide) (hts _ tw_137) (fun _ h9 => h9) rfl dX9_append_22 ?_
  refine lv_iload_n hx hb dX9_append_25 rfl (lv_at hl 2 rfl) ?_
  refine lv_iload_n hx hb dX9_append_26 rfl (lv_at hl 0 rfl) ?_
  refine lv_ishr hx hb dX9_append_27 ?_
  refine lv_topi (fun x_9 ex_9 => ?_)
  obtain ⟨x_10, ex_10⟩ : ∃ y, x_9.toInt8.toInt32 = y := ⟨_, rfl⟩
  refine lv_i2b (v := x_10) hx hb dX9_append_28 ex_10 ?_
  refine va_bast hx hb hKN.1 hP hD hS 1 0 rfl rfl (by unfold vp_in; decide) dX9_append_29 (fun H locs hP hD hS => ?_)
  have hP : va_P D vwCl [(h0, .inr (9, [.ref t_bytes, .int 17])), (t_bytes, .inl (cA 0, 800, .inl (upd f_5 17 (vp_nar .byte x_10))))] H := hP
  have hD : va_D A [(h0, .inr (9, [.ref t_bytes, .int 17])), (t_bytes, .inl (cA 0, 800, .inl (upd f_5 17 (vp_nar .byte x_10))))] := hD
  generalize ef_11 : (upd f_5 17 (vp_nar .byte x_10)) = f_11 at hP hD
  refine lv_aload_n hx hb dX9_append_30 rfl (lv_at hl 1 rfl) ?_
  refine lv_dup hx hb dX9_append_31 rfl ?_
  refine va_get (D := D) (ci := 9) (v := .int 17) (C := RX9) (T := TX9) (N := 2) hx hb hts inX9 hown hKN.1 hP 0 rfl rfl 1 (by decide) (hts _ tw_137) (fun _ h9 => h9) rfl dX9_append_32 ?_
  refine lv_iconst (v := 1) hx hb dX9_append_35 (by decide) ?_
  refine lv_iadd hx hb dX9_append_36 ?_
  refine lv_topi (fun x_12 ex_12 => ?_)
  obtain rfl : x_12 = 18 := ex_12.trans (by decide)
  refine va_put (D := D) (ci := 9) (v := .int 18) (ty := .int) (C := RX9) (T := TX9) (N := 2) hx hb hts inX9 tyX9 tyX9_ok nmX9 hown hKN.1 hP hD hS 0 rfl rfl 1 (by decide) (hts _ tw_137) (fun _ h9 => h9) rfl (by decide +kernel) rfl rfl (Nat.le_of_ble_eq_true rfl) dX9_append_37 (fun H locs hP hD hS => ?_)
  have hP : va_P D vwCl [(h0, .inr (9, [.ref t_bytes, .int 18])), (t_bytes, .inl (cA 0, 800, .inl f_11))] H := hP
  have hD : va_D A [(h0, .inr (9, [.ref t_bytes, .int 18])), (t_bytes, .inl (cA 0, 800, .inl f_11))] := hD
  refine lv_iinc (v := 8) (lv' := [(2, .int 8), (0, .ref h0), (1, .int four)]) hx hb dX9_append_40 hl (k := 0) rfl (by decide) (by decide) rfl (fun ls hl => ?_)
  refine lv_goto (tgt := 3) hx hb dX9_append_43 (by decide) ?_
  refine lv_iload_n hx hb dX9_append_3 rfl (lv_at hl 0 rfl) ?_
  refine lv_if_lt (tgt := 46) hx hb dX9_append_4 (by decide) (fun c_13 => absurd c_13 (by decide)) (fun c_13 => ?_)
  refine lv_aload_n hx hb dX9_append_7 rfl (lv_at hl 1 rfl) ?_
  refine va_get (D := D) (ci := 9) (v := .int 18) (C := RX9) (T := TX9) (N := 2) hx hb hts inX9 hown hKN.1 hP 0 rfl rfl 1 (by decide) (hts _ tw_137) (fun _ h9 => h9) rfl dX9_append_8 ?_
  refine lv_sipush (v := 800) hx hb dX9_append_11 (by decide) ?_
  refine lv_icmp_ge (tgt := 40) hx hb dX9_append_14 (by decide) (fun c_14 => absurd c_14 (by decide)) (fun c_14 => ?_)
  refine lv_aload_n hx hb dX9_append_17 rfl (lv_at hl 1 rfl) ?_
  refine va_get (D := D) (ci := 9) (v := .ref t_bytes) (C := RX9) (T := TX9) (N := 2) hx hb hts inX9 hown hKN.1 hP 0 rfl rfl 0 (by decide) (hts _ tw_136) (fun _ h9 => h9) rfl dX9_append_18 ?_
  refine lv_aload_n hx hb dX9_append_21 rfl (lv_at hl 1 rfl) ?_
  refine va_get (D := D) (ci := 9) (v := .int 18) (C := RX9) (T := TX9) (N := 2) hx hb hts inX9 hown hKN.1 hP 0 rfl rfl 1 (by decide) (hts _ tw_137) (fun _ h9 => h9) rfl dX9_append_22 ?_
  refine lv_iload_n hx hb dX9_append_25 rfl (lv_at hl 2 rfl) ?_
  refine lv_iload_n hx hb dX9_append_26 rfl (lv_at hl 0 rfl) ?_
  refine lv_ishr hx hb dX9_append_27 ?_
  refine lv_topi (fun x_15 ex_15 => ?_)
  obtain ⟨x_16, ex_16⟩ : ∃ y, x_15.toInt8.toInt32 = y := ⟨_, rfl⟩
  refine lv_i2b (v := x_16) hx hb dX9_append_28 ex_16 ?_
  refine va_bast hx hb hKN.1 hP hD hS 1 0 rfl rfl (by unfold vp_in; decide) dX9_append_29 (fun H locs hP hD hS => ?_)
  have hP : va_P D vwCl [(h0, .inr (9, [.ref t_bytes, .int 18])), (t_bytes, .inl (cA 0, 800, .inl (upd f_11 18 (vp_nar .byte x_16))))] H := hP
  have hD : va_D A [(h0, .inr (9, [.ref t_bytes, .int 18])), (t_bytes, .inl (cA 0, 800, .inl (upd f_11 18 (vp_nar .byte x_16))))] := hD
  generalize ef_17 : (upd f_11 18 (vp_nar .byte x_16)) = f_17 at hP hD
  refine lv_aload_n hx hb dX9_append_30 rfl (lv_at hl 1 rfl) ?_
  refine lv_dup hx hb dX9_append_31 rfl ?_
  refine va_get (D := D) (ci := 9) (v := .int 18) (C := RX9) (T := TX9) (N := 2) hx hb hts inX9 hown hKN.1 hP 0 rfl rfl 1 (by decide) (hts _ tw_137) (fun _ h9 => h9) rfl dX9_append_32 ?_
  refine lv_iconst (v := 1) hx hb dX9_append_35 (by decide) ?_
  refine lv_iadd hx hb dX9_append_36 ?_
  refine lv_topi (fun x_18 ex_18 => ?_)
  obtain rfl : x_18 = 19 := ex_18.trans (by decide)
  refine va_put (D := D) (ci := 9) (v := .int 19) (ty := .int) (C := RX9) (T := TX9) (N := 2) hx hb hts inX9 tyX9 tyX9_ok nmX9 hown hKN.1 hP hD hS 0 rfl rfl 1 (by decide) (hts _ tw_137) (fun _ h9 => h9) rfl (by decide +kernel) rfl rfl (Nat.le_of_ble_eq_true rfl) dX9_append_37 (fun H locs hP hD hS => ?_)
  have hP : va_P D vwCl [(h0, .inr (9, [.ref t_bytes, .int 19])), (t_bytes, .inl (cA 0, 800, .inl f_17))] H := hP
  have hD : va_D A [(h0, .inr (9, [.ref t_bytes, .int 19])), (t_bytes, .inl (cA 0, 800, .inl f_17))] := hD
  refine lv_iinc (v := 0) (lv' := [(2, .int 0), (0, .ref h0), (1, .int four)]) hx hb dX9_append_40 hl (k := 0) rfl (by decide) (by decide) rfl (fun ls hl => ?_)
  refine lv_goto (tgt := 3) hx hb dX9_append_43 (by decide) ?_
  refine lv_iload_n hx hb dX9_append_3 rfl (lv_at hl 0 rfl) ?_
  refine lv_if_lt (tgt := 46) hx hb dX9_append_4 (by decide) (fun c_19 => absurd c_19 (by decide)) (fun c_19 => ?_)
  refine lv_aload_n hx hb dX9_append_7 rfl (lv_at hl 1 rfl) ?_
  refine va_get (D := D) (ci := 9) (v := .int 19) (C := RX9) (T := TX9) (N := 2) hx hb hts inX9 hown hKN.1 hP 0 rfl rfl 1 (by decide) (hts _ tw_137) (fun _ h9 => h9) rfl dX9_append_8 ?_
  refine lv_sipush (v := 800) hx hb dX9_append_11 (by decide) ?_
  refine lv_icmp_ge (tgt := 40) hx hb dX9_append_14 (by decide) (fun c_20 => absurd c_20 (by decide)) (fun c_20 => ?_)
  refine lv_aload_n hx hb dX9_append_17 rfl (lv_at hl 1 rfl) ?_
  refine va_get (D := D) (ci := 9) (v := .ref t_bytes) (C := RX9) (T := TX9) (N := 2) hx hb hts inX9 hown hKN.1 hP 0 rfl rfl 0 (by decide) (hts _ tw_136) (fun _ h9 => h9) rfl dX9_append_18 ?_
  refine lv_aload_n hx hb dX9_append_21 rfl (lv_at hl 1 rfl) ?_
  refine va_get (D := D) (ci := 9) (v := .int 19) (C := RX9) (T := TX9) (N := 2) hx hb hts inX9 hown hKN.1 hP 0 rfl rfl 1 (by decide) (hts _ tw_137) (fun _ h9 => h9) rfl dX9_append_22 ?_
  refine lv_iload_n hx hb dX9_append_25 rfl (lv_at hl 2 rfl) ?_
  refine lv_iload_n hx hb dX9_append_26 rfl (lv_at hl 0 rfl) ?_
  refine lv_ishr hx hb dX9_append_27 ?_
  refine lv_topi (fun x_21 ex_21 => ?_)
  obtain ⟨x_22, ex_22⟩ : ∃ y, x_21.toInt8.toInt32 = y := ⟨_, rfl⟩
  refine lv_i2b (v := x_22) hx hb dX9_append_28 ex_22 ?_
  refine va_bast hx hb hKN.1 hP hD hS 1 0 rfl rfl (by unfold vp_in; decide) dX9_append_29 (fun H locs hP hD hS => ?_)
  have hP : va_P D vwCl [(h0, .inr (9, [.ref t_bytes, .int 19])), (t_bytes, .inl (cA 0, 800, .inl (upd f_17 19 (vp_nar .byte x_22))))] H := hP
  have hD : va_D A [(h0, .inr (9, [.ref t_bytes, .int 19])), (t_bytes, .inl (cA 0, 800, .inl (upd f_17 19 (vp_nar .byte x_22))))] := hD
  generalize ef_23 : (upd f_17 19 (vp_nar .byte x_22)) = f_23 at hP hD
  refine lv_aload_n hx hb dX9_append_30 rfl (lv_at hl 1 rfl) ?_
  refine lv_dup hx hb dX9_append_31 rfl ?_
  refine va_get (D := D) (ci := 9) (v := .int 19) (C := RX9) (T := TX9) (N := 2) hx hb hts inX9 hown hKN.1 hP 0 rfl rfl 1 (by decide) (hts _ tw_137) (fun _ h9 => h9) rfl dX9_append_32 ?_
  refine lv_iconst (v := 1) hx hb dX9_append_35 (by decide) ?_
  refine lv_iadd hx hb dX9_append_36 ?_
  refine lv_topi (fun x_24 ex_24 => ?_)
  obtain rfl : x_24 = 20 := ex_24.trans (by decide)
  refine va_put (D := D) (ci := 9) (v := .int 20) (ty := .int) (C := RX9) (T := TX9) (N := 2) hx hb hts inX9 tyX9 tyX9_ok nmX9 hown hKN.1 hP hD hS 0 rfl rfl 1 (by decide) (hts _ tw_137) (fun _ h9 => h9) rfl (by decide +kernel) rfl rfl (Nat.le_of_ble_eq_true rfl) dX9_append_37 (fun H locs hP hD hS => ?_)
  have hP : va_P D vwCl [(h0, .inr (9, [.ref t_bytes, .int 20])), (t_bytes, .inl (cA 0, 800, .inl f_23))] H := hP
  have hD : va_D A [(h0, .inr (9, [.ref t_bytes, .int 20])), (t_bytes, .inl (cA 0, 800, .inl f_23))] := hD
  refine lv_iinc (v := (-8)) (lv' := [(2, .int (-8)), (0, .ref h0), (1, .int four)]) hx hb dX9_append_40 hl (k := 0) rfl (by decide) (by decide) rfl (fun ls hl => ?_)
  refine lv_goto (tgt := 3) hx hb dX9_append_43 (by decide) ?_
  refine lv_iload_n hx hb dX9_append_3 rfl (lv_at hl 0 rfl) ?_
  refine lv_if_lt (tgt := 46) hx hb dX9_append_4 (by decide) (fun c_25 => ?_) (fun c_25 => absurd (by decide) c_25)
  have hP9 := hP.sub (ws' := [(h0, .inr (9, [.ref t_bytes, .int 20])), (t_bytes, .inl (cA 0, 800, .inl f_23))]) [0, 1] rfl
  have hD9 := hD.sub (ws' := [(h0, .inr (9, [.ref t_bytes, .int 20])), (t_bytes, .inl (cA 0, 800, .inl f_23))]) [0, 1] (by decide) rfl
  exact W.vret hx hb hr (fun t ht hW => ⟨⟨((fun _ => 0), (fun _ => 0), (selF [f_23]), (fun _ _ => 0)), rfl, trivial, by rw [ht]; exact hP9, hD9⟩, hS.F ht⟩) hS.2.2 dX9_append_46
set_option maxHeartbeats 4000000 in
set_option maxRecDepth 100000 in
theorem k_X9_byteAt (l : Launch) (D : va_G) (cA : Nat → ClassId) (h0 : Nat) (t_bytes : Nat) : Met l yX9_byteAt (Cond.code yX9_byteAt cX9_byteAt 2 (some .int) :: TB) (rmd 0 0 0) (PP D cA [(h0, .inr (9, [.ref t_bytes, .int 0]))] [.ref h0, .int 0]) (vp_Si (fun r => r = (-1))) 0 0 (fun _ => False) := by
  refine Met.ofW (cc := cX9_byteAt) (maxL := 2) (ret := (some .int)) (by decide) rfl ?_
  intro p e s m args below meth c s₁ B hml hv
  obtain ⟨rfl, hP, hKN⟩ := hv
  have hx := B.exec
  have hb := B.bytes
  have hr := B.returns
  have hts : ∀ w ∈ TB, w.before _ s = true := fun w h => atoms_spec B.pre w (List.mem_cons_of_mem _ h)
  have hown : s.vm.findClass RX9 = some m.cls := findClass_of_methodNamed B.named
  have hlocks := B.notSynchronized
  have hl := lv_entry ([.ref h0, .int 0]) (n := 2) (Nat.le_of_ble_eq_true rfl)
  rw [lg_entry_eq]
  generalize (lg_sl ([.ref h0, .int 0]) ++ List.replicate (2 - (lg_sl ([.ref h0, .int 0])).length) Slot.unset).toArray = ls at hl ⊢
  have hl : lv_has ls 2 [(0, .ref h0), (1, .int 0)] := hl
  refine lv_iload_n hx hb dX9_byteAt_0 rfl (lv_at hl 1 rfl) ?_
  refine lv_if_lt (tgt := 32) hx hb dX9_byteAt_1 (by decide) (fun c_1 => absurd c_1 (by decide)) (fun c_1 => ?_)
  refine lv_iload_n hx hb dX9_byteAt_4 rfl (lv_at hl 1 rfl) ?_
  refine lv_aload_n hx hb dX9_byteAt_5 rfl (lv_at hl 0 rfl) ?_
  refine va_get (D := D) (ci := 9) (v := .int 0) (C := RX9) (T := TX9) (N := 2) hx hb hts inX9 hown hKN.1 hP 0 rfl rfl 1 (by decide) (hts _ tw_137) (fun _ h9 => h9) rfl dX9_byteAt_6 ?_
  refine lv_icmp_ge (tgt := 32) hx hb dX9_byteAt_9 (by decide) (fun c_2 => ?_) (fun c_2 => absurd (by decide) c_2)
  refine lv_iconst (v := (-1)) hx hb dX9_byteAt_32 (by decide) ?_
  exact W.iret (v := (-1)) hx hb hr (fun t ht hW => ⟨(-1), rfl, rfl, ht⟩) (fun _ h => by cases h) dX9_byteAt_33

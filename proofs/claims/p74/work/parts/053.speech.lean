theorem zi_10 : (10 : Int32).toInt = 10 := by decide
theorem zi_128 : (128 : Int32).toInt = 128 := by decide
theorem zj_7 : (7 : Int64).toInt = 7 := by decide
set_option maxHeartbeats 8000000 in
set_option maxRecDepth 100000 in
theorem g_X8_said (l : Launch) (D : va_G) (cA : Nat → ClassId) (p0 : Int32) (p1 : Int32) (p2 : Int32) : Met l yX8_said (Cond.code yX8_said cX8_said 3 (some .int) :: TB) (rmd 0 0 0) (PP D cA [] [.int p0, .int p1, .int p2]) (vp_Si (fun r => True)) 0 0 (fun _ => False) := by
  refine Met.ofW (cc := cX8_said) (maxL := 3) (ret := (some .int)) (by decide) rfl ?_
  intro p e s m args below meth c s₁ B hml hv
  obtain ⟨rfl, hP, hKN⟩ := hv
  have hx := B.exec
  have hb := B.bytes
  have hr := B.returns
  have hts : ∀ w ∈ TB, w.before _ s = true := fun w h => atoms_spec B.pre w (List.mem_cons_of_mem _ h)
  have hown : s.vm.findClass RX8 = some m.cls := findClass_of_methodNamed B.named
  have hlocks := B.notSynchronized
  have hl := lv_entry ([.int p0, .int p1, .int p2]) (n := 3) (Nat.le_of_ble_eq_true rfl)
  rw [lg_entry_eq]
  generalize (lg_sl ([.int p0, .int p1, .int p2]) ++ List.replicate (3 - (lg_sl ([.int p0, .int p1, .int p2])).length) Slot.unset).toArray = ls at hl ⊢
  have hl : lv_has ls 3 [(0, .int p0), (1, .int p1), (2, .int p2)] := hl
  refine lv_iload_n hx hb dX8_said_0 rfl (lv_at hl 0 rfl) ?_
  refine lv_sipush (v := 1000) hx hb dX8_said_1 (by decide) ?_
  refine lv_irem hx hb dX8_said_4 (by decide) ?_
  refine lv_topi (fun x_1 ex_1 => ?_)
  refine lv_iload_n hx hb dX8_said_5 rfl (lv_at hl 1 rfl) ?_
  refine lv_iadd hx hb dX8_said_6 ?_
  refine lv_topi (fun x_3 ex_3 => ?_)
  refine lv_iload_n hx hb dX8_said_7 rfl (lv_at hl 2 rfl) ?_
  refine lv_icmp_gt (tgt := 15) hx hb dX8_said_8 (by decide) (fun c_5 => ?_) (fun c_5 => ?_)
  · skip
    have b_7 := i32_bd p2
    have b_8 := i32_bd x_3
    have k_6 := kk_lt rfl rfl c_5
    refine lv_iload_n hx hb dX8_said_15 rfl (lv_at hl 0 rfl) ?_
    refine lv_sipush (v := 1000) hx hb dX8_said_16 (by decide) ?_
    refine lv_idiv hx hb dX8_said_19 (by decide) ?_
    refine lv_topi (fun x_9 ex_9 => ?_)
    refine lv_iconst (v := 1) hx hb dX8_said_20 (by decide) ?_
    refine lv_iadd hx hb dX8_said_21 ?_
    refine lv_topi (fun x_11 ex_11 => ?_)
    refine lv_sipush (v := 1000) hx hb dX8_said_22 (by decide) ?_
    refine lv_imul hx hb dX8_said_25 ?_
    refine lv_topi (fun x_13 ex_13 => ?_)
    refine lv_iload_n hx hb dX8_said_26 rfl (lv_at hl 1 rfl) ?_
    refine lv_iadd hx hb dX8_said_27 ?_
    refine lv_topi (fun x_15 ex_15 => ?_)
    exact W.iret (v := x_15) hx hb hr (fun t ht hW => ⟨x_15, rfl, trivial, ht⟩) (fun _ h => by cases h) dX8_said_28
  · skip
    have b_18 := i32_bd p2
    have b_19 := i32_bd x_3
    have k_17 := kk_nlt rfl rfl c_5
    refine lv_iload_n hx hb dX8_said_11 rfl (lv_at hl 0 rfl) ?_
    refine lv_iload_n hx hb dX8_said_12 rfl (lv_at hl 1 rfl) ?_
    refine lv_iadd hx hb dX8_said_13 ?_
    refine lv_topi (fun x_20 ex_20 => ?_)
    exact W.iret (v := x_20) hx hb hr (fun t ht hW => ⟨x_20, rfl, trivial, ht⟩) (fun _ h => by cases h) dX8_said_14
set_option maxHeartbeats 8000000 in
set_option maxRecDepth 100000 in
theorem g_X8_lengthOf (l : Launch) (D : va_G) (cA : Nat → ClassId) (h0 : Nat) (sp_qreached : Nat) (g : Nat) (g_odds : Int32) (g_pot : Int32) (g_lines : Int32) (g_men : Int32) (g_clauses : Int32) (g_winds : Int32) (g_far0 : Int32) (g_far1 : Int32) (g_qsides : Nat) (g_qgrips : Nat) (g_qwits : Nat) (g_qsays : Nat) (g_qgives0 : Nat) (g_qgives1 : Nat) (g_qfroms : Nat) (g_qtos : Nat) (g_csays : Nat → Int32) (p0 : Int64) (h_g_odds : -999 ≤ (g_odds : Int32).toInt ∧ (g_odds : Int32).toInt ≤ 999) (h_g_pot : -999 ≤ (g_pot : Int32).toInt ∧ (g_pot : Int32).toInt ≤ 999) (h_g_men : 0 ≤ (g_men : Int32).toInt ∧ (g_men : Int32).toInt ≤ 8) (h_g_clauses : 0 ≤ (g_clauses : Int32).toInt ∧ (g_clauses : Int32).toInt ≤ 7) (h_g_winds : 0 ≤ (g_winds : Int32).toInt ∧ (g_winds : Int32).toInt ≤ 4) (h_g_far0 : -999 ≤ (g_far0 : Int32).toInt ∧ (g_far0 : Int32).toInt ≤ 999) (h_g_far1 : -999 ≤ (g_far1 : Int32).toInt ∧ (g_far1 : Int32).toInt ≤ 999) : Met l yX8_lengthOf (Cond.code yX8_lengthOf cX8_lengthOf 3 (some .int) :: TB) (rmd 2 0 0) (PP D cA [(h0, .inr (8, [.ref sp_qreached, .ref g])), (g, .inr (3, [.int g_odds, .int g_pot, .int g_lines, .int g_men, .int g_clauses, .int g_winds, .int g_far0, .int g_far1, .ref g_qsides, .ref g_qgrips, .ref g_qwits, .ref g_qsays, .ref g_qgives0, .ref g_qgives1, .ref g_qfroms, .ref g_qtos])), (g_qsays, .inl (cA 1, 7, .inl g_csays))] [.ref h0, .long p0]) (vp_Si (fun r => True)) 0 0 (fun _ => False) := by
  refine Met.ofW (cc := cX8_lengthOf) (maxL := 3) (ret := (some .int)) (by decide) rfl ?_
  intro p e s m args below meth c s₁ B hml hv
  obtain ⟨rfl, hP, hKN⟩ := hv
  have hx := B.exec
  have hb := B.bytes
  have hr := B.returns
  have hts : ∀ w ∈ TB, w.before _ s = true := fun w h => atoms_spec B.pre w (List.mem_cons_of_mem _ h)
  have hown : s.vm.findClass RX8 = some m.cls := findClass_of_methodNamed B.named
  have hlocks := B.notSynchronized
  have hl := lv_entry ([.ref h0, .long p0]) (n := 3) (Nat.le_of_ble_eq_true rfl)
  rw [lg_entry_eq]
  generalize (lg_sl ([.ref h0, .long p0]) ++ List.replicate (3 - (lg_sl ([.ref h0, .long p0])).length) Slot.unset).toArray = ls at hl ⊢
  have hl : lv_has ls 3 [(0, .ref h0), (1, .long p0)] := hl
  refine lv_lload_n hx hb dX8_lengthOf_0 rfl (lv_at hl 1 rfl) ?_
  refine lv_lconst (v := 0) hx hb dX8_lengthOf_1 (by decide) ?_
  refine W.lcmp hx hb dX8_lengthOf_2 ?_
  refine lv_if_lt (tgt := 26) hx hb dX8_lengthOf_3 (by decide) (fun c_1 => ?_) (fun c_1 => ?_)
  · skip
    have b_3 := i64_bd p0
    have k_2 := jj_lt rfl zj_0 c_1
    refine lv_iconst (v := 0) hx hb dX8_lengthOf_26 (by decide) ?_
    exact W.iret (v := 0) hx hb hr (fun t ht hW => ⟨0, rfl, trivial, ht⟩) (fun _ h => by cases h) dX8_lengthOf_27
  · skip
    have b_5 := i64_bd p0
    have k_4 := jj_nlt rfl zj_0 c_1
    refine lv_lload_n hx hb dX8_lengthOf_6 rfl (lv_at hl 1 rfl) ?_
    refine lv_ldc2 (v := 7) hx hb hown (hts _ tw_974) dX8_lengthOf_7 ?_
    refine W.lcmp hx hb dX8_lengthOf_10 ?_
    refine lv_if_ge (tgt := 26) hx hb dX8_lengthOf_11 (by decide) (fun c_6 => ?_) (fun c_6 => ?_)
    · skip
      have k_7 := jj_ge rfl zj_7 c_6
      refine lv_iconst (v := 0) hx hb dX8_lengthOf_26 (by decide) ?_
      exact W.iret (v := 0) hx hb hr (fun t ht hW => ⟨0, rfl, trivial, ht⟩) (fun _ h => by cases h) dX8_lengthOf_27
    · skip
      have k_8 := jj_nge rfl zj_7 c_6
      refine lv_aload_n hx hb dX8_lengthOf_14 rfl (lv_at hl 0 rfl) ?_
      refine va_get (D := D) (ci := 8) (v := .ref g) (C := RX8) (T := TX8) (N := 2) hx hb hts inX8 hown hKN.1 hP 0 rfl rfl 1 (by decide) (hts _ tw_405) (fun _ h9 => h9) rfl dX8_lengthOf_15 ?_
      refine lv_lload_n hx hb dX8_lengthOf_18 rfl (lv_at hl 1 rfl) ?_
      obtain ⟨x_9, ex_9⟩ : ∃ y, p0.toInt32 = y := ⟨_, rfl⟩
      refine lv_l2i (v := x_9) hx hb dX8_lengthOf_19 ex_9 ?_
      have k_10 := tt_l2i ex_9 (by omega) (by omega)
      refine cpVi (rest := []) ⟨hx, hb, hml, hown, hts⟩ hKN (hP.sub (ws' := [(g, .inr (3, [.int g_odds, .int g_pot, .int g_lines, .int g_men, .int g_clauses, .int g_winds, .int g_far0, .int g_far1, .ref g_qsides, .ref g_qgrips, .ref g_qwits, .ref g_qsays, .ref g_qgives0, .ref g_qgives1, .ref g_qfroms, .ref g_qtos])), (g_qsays, .inl (cA 1, 7, .inl g_csays))]) [1, 2] rfl) (g_X3_lengthOf l D cA g g_odds g_pot g_lines g_men g_clauses g_winds g_far0 g_far1 g_qsides g_qgrips g_qwits g_qsays g_qgives0 g_qgives1 g_qfroms g_qtos g_csays x_9 (by omega) (by omega) (by omega) (by omega) (by omega) (by omega) (by omega)) (tb_V tw_975 tw_724 tw_725 tw_104 tw_726) hdX3_lengthOf ⟨rfl, rfl, Nat.le_of_ble_eq_true rfl, Nat.le_of_ble_eq_true rfl⟩ ⟨Nat.le_of_ble_eq_true rfl, Nat.le_of_ble_eq_true rfl⟩ rfl rfl rfl hl.1 rfl (Nat.le_of_ble_eq_true rfl) dX8_lengthOf_20 (fun r_11 hr_11 => ?_)
      refine lv_goto (tgt := 27) hx hb dX8_lengthOf_23 (by decide) ?_
      exact W.iret (v := r_11) hx hb hr (fun t ht hW => ⟨r_11, rfl, trivial, ht⟩) (fun _ h => by cases h) dX8_lengthOf_27
set_option maxHeartbeats 8000000 in
set_option maxRecDepth 100000 in
theorem g_X8_longestClause (l : Launch) (D : va_G) (cA : Nat → ClassId) (h0 : Nat) (sp_qreached : Nat) (g : Nat) (g_odds : Int32) (g_pot : Int32) (g_lines : Int32) (g_men : Int32) (g_clauses : Int32) (g_winds : Int32) (g_far0 : Int32) (g_far1 : Int32) (g_qsides : Nat) (g_qgrips : Nat) (g_qwits : Nat) (g_qsays : Nat) (g_qgives0 : Nat) (g_qgives1 : Nat) (g_qfroms : Nat) (g_qtos : Nat) (g_csays : Nat → Int32) (h_g_odds : -999 ≤ (g_odds : Int32).toInt ∧ (g_odds : Int32).toInt ≤ 999) (h_g_pot : -999 ≤ (g_pot : Int32).toInt ∧ (g_pot : Int32).toInt ≤ 999) (h_g_men : 0 ≤ (g_men : Int32).toInt ∧ (g_men : Int32).toInt ≤ 8) (h_g_clauses : 0 ≤ (g_clauses : Int32).toInt ∧ (g_clauses : Int32).toInt ≤ 7) (h_g_winds : 0 ≤ (g_winds : Int32).toInt ∧ (g_winds : Int32).toInt ≤ 4) (h_g_far0 : -999 ≤ (g_far0 : Int32).toInt ∧ (g_far0 : Int32).toInt ≤ 999) (h_g_far1 : -999 ≤ (g_far1 : Int32).toInt ∧ (g_far1 : Int32).toInt ≤ 999) : Met l yX8_longestClause (Cond.code yX8_longestClause cX8_longestClause 3 (some .int) :: TB) (rmd 2 0 0) (PP D cA [(h0, .inr (8, [.ref sp_qreached, .ref g])), (g, .inr (3, [.int g_odds, .int g_pot, .int g_lines, .int g_men, .int g_clauses, .int g_winds, .int g_far0, .int g_far1, .ref g_qsides, .ref g_qgrips, .ref g_qwits, .ref g_qsays, .ref g_qgives0, .ref g_qgives1, .ref g_qfroms, .ref g_qtos])), (g_qsays, .inl (cA 1, 7, .inl g_csays))] [.ref h0]) (vp_Si (fun r => 0 ≤ r.toInt)) 0 0 (fun _ => False) := by
  refine Met.ofW (cc := cX8_longestClause) (maxL := 3) (ret := (some .int)) (by decide) rfl ?_
  intro p e s m args below meth c s₁ B hml hv
  obtain ⟨rfl, hP, hKN⟩ := hv
  have hx := B.exec
  have hb := B.bytes
  have hr := B.returns
  have hts : ∀ w ∈ TB, w.before _ s = true := fun w h => atoms_spec B.pre w (List.mem_cons_of_mem _ h)
  have hown : s.vm.findClass RX8 = some m.cls := findClass_of_methodNamed B.named
  have hlocks := B.notSynchronized
  have hl := lv_entry ([.ref h0]) (n := 3) (Nat.le_of_ble_eq_true rfl)
  rw [lg_entry_eq]
  generalize (lg_sl ([.ref h0]) ++ List.replicate (3 - (lg_sl ([.ref h0])).length) Slot.unset).toArray = ls at hl ⊢
  have hl : lv_has ls 3 [(0, .ref h0)] := hl
  refine lv_iconst (v := 0) hx hb dX8_longestClause_0 (by decide) ?_
  refine lv_istore_n (lv' := [(1, .int 0), (0, .ref h0)]) hx hb dX8_longestClause_1 rfl hl (by decide) rfl (fun ls hl => ?_)
  refine lv_iconst (v := 0) hx hb dX8_longestClause_2 (by decide) ?_
  refine lv_istore_n (lv' := [(2, .int 0), (1, .int 0), (0, .ref h0)]) hx hb dX8_longestClause_3 rfl hl (by decide) rfl (fun ls hl => ?_)
  refine loopW (σ := Int32 × Int32) (fun _ => []) (fun ⟨L2_41, L1_41⟩ H locs ls => (0 ≤ L2_41.toInt ∧ L2_41.toInt ≤ 7) ∧ (0 ≤ L1_41.toInt) ∧ H = s.heap ∧ locs = [] ∧ lv_has ls 3 [(2, .int L2_41), (1, .int L1_41), (0, .ref h0)]) (fun ⟨L2_41, L1_41⟩ => (2147483647 - L2_41.toInt).toNat) ?_ ((0, 0) : Int32 × Int32) ⟨(by decide), (by decide), rfl, rfl, hl⟩
  intro x_41 H locs ls hI_41 ih_41
  obtain ⟨L2_41, L1_41⟩ := x_41
  obtain ⟨k0_41, k1_41, rfl, rfl, hl⟩ := hI_41
  have hl : lv_has ls 3 [(2, .int L2_41), (1, .int L1_41), (0, .ref h0)] := hl
  refine lv_iload_n hx hb dX8_longestClause_4 rfl (lv_at hl 0 rfl) ?_
  refine lv_aload_n hx hb dX8_longestClause_5 rfl (lv_at hl 2 rfl) ?_
  refine va_get (D := D) (ci := 8) (v := .ref g) (C := RX8) (T := TX8) (N := 2) hx hb hts inX8 hown hKN.1 hP 0 rfl rfl 1 (by decide) (hts _ tw_405) (fun _ h9 => h9) rfl dX8_longestClause_6 ?_
  refine va_get (D := D) (ci := 3) (v := .int g_clauses) (C := RX3) (T := TX3) (N := 16) hx hb hts inX3 hown hKN.1 hP 1 rfl rfl 4 (by decide) (hts _ tw_173) (fun _ h9 => h9) rfl dX8_longestClause_9 ?_
  refine lv_icmp_ge (tgt := 34) hx hb dX8_longestClause_12 (by decide) (fun c_42 => ?_) (fun c_42 => ?_)
  · skip
    have k_43 := kk_le rfl rfl c_42
    refine lv_iload_n hx hb dX8_longestClause_34 rfl (lv_at hl 1 rfl) ?_
    exact W.iret (v := L1_41) hx hb hr (fun t ht hW => ⟨L1_41, rfl, (show 0 ≤ L1_41.toInt from by omega), ht⟩) (fun _ h => by cases h) dX8_longestClause_35
  · skip
    have k_44 := kk_nle rfl rfl c_42
    refine lv_iload_n hx hb dX8_longestClause_15 rfl (lv_at hl 1 rfl) ?_
    refine lv_aload_n hx hb dX8_longestClause_16 rfl (lv_at hl 2 rfl) ?_
    refine va_get (D := D) (ci := 8) (v := .ref g) (C := RX8) (T := TX8) (N := 2) hx hb hts inX8 hown hKN.1 hP 0 rfl rfl 1 (by decide) (hts _ tw_405) (fun _ h9 => h9) rfl dX8_longestClause_17 ?_
    refine lv_iload_n hx hb dX8_longestClause_20 rfl (lv_at hl 0 rfl) ?_
    refine cpVi (rest := [.int L1_41]) ⟨hx, hb, hml, hown, hts⟩ hKN (hP.sub (ws' := [(g, .inr (3, [.int g_odds, .int g_pot, .int g_lines, .int g_men, .int g_clauses, .int g_winds, .int g_far0, .int g_far1, .ref g_qsides, .ref g_qgrips, .ref g_qwits, .ref g_qsays, .ref g_qgives0, .ref g_qgives1, .ref g_qfroms, .ref g_qtos])), (g_qsays, .inl (cA 1, 7, .inl g_csays))]) [1, 2] rfl) (g_X3_lengthOf l D cA g g_odds g_pot g_lines g_men g_clauses g_winds g_far0 g_far1 g_qsides g_qgrips g_qwits g_qsays g_qgives0 g_qgives1 g_qfroms g_qtos g_csays L2_41 (by omega) (by omega) (by omega) (by omega) (by omega) (by omega) (by omega)) (tb_V tw_975 tw_724 tw_725 tw_104 tw_726) hdX3_lengthOf ⟨rfl, rfl, Nat.le_of_ble_eq_true rfl, Nat.le_of_ble_eq_true rfl⟩ ⟨Nat.le_of_ble_eq_true rfl, Nat.le_of_ble_eq_true rfl⟩ rfl rfl rfl hl.1 rfl (Nat.le_of_ble_eq_true rfl) dX8_longestClause_21 (fun r_45 hr_45 => ?_)
    refine cpSi (rest := []) ⟨hx, hb, hml, hown, hts⟩ hKN (hP.sub (ws' := []) [] rfl) (g_J9_max_7cf53 l D cA L1_41 r_45) (tb_S tw_999 tw_779 tw_115 tw_780) hdJ9_max_7cf53 ⟨rfl, rfl, Nat.le_of_ble_eq_true rfl, Nat.le_of_ble_eq_true rfl⟩ ⟨Nat.le_of_ble_eq_true rfl, Nat.le_of_ble_eq_true rfl⟩ rfl hl.1 rfl (Nat.le_of_ble_eq_true rfl) dX8_longestClause_24 (fun r_46 hr_46 => ?_)
    obtain ⟨k_46_0_0, k_46_0_1, k_46_0_2⟩ := hr_46
    refine lv_istore_n (lv' := [(1, .int r_46), (2, .int L2_41), (0, .ref h0)]) hx hb dX8_longestClause_27 rfl hl (by decide) rfl (fun ls hl => ?_)
    obtain ⟨x_47, ex_47⟩ : ∃ y : Int32, L2_41 + Int32.ofInt 1 = y := ⟨_, rfl⟩
    have k_48 := ar_add (b := 1) rfl zi_1 ex_47.symm (by omega) (by omega)
    refine lv_iinc (v := x_47) (lv' := [(2, .int x_47), (1, .int r_46), (0, .ref h0)]) hx hb dX8_longestClause_28 hl (k := 1) rfl ex_47 (by decide) rfl (fun ls hl => ?_)
    refine lv_goto (tgt := 4) hx hb dX8_longestClause_31 (by decide) ?_
    exact ih_41 (x_47, r_46) _ _ _ ⟨(show 0 ≤ x_47.toInt ∧ x_47.toInt ≤ 7 from by omega), (show 0 ≤ r_46.toInt from by omega), rfl, rfl, lv_sub hl [0, 1, 2] rfl⟩ (by show (2147483647 - x_47.toInt).toNat < (2147483647 - L2_41.toInt).toNat; omega)
set_option maxHeartbeats 8000000 in
set_option maxRecDepth 100000 in
theorem g_X8_isRowOfClauses (l : Launch) (D : va_G) (cA : Nat → ClassId) (h0 : Nat) (sp_qreached : Nat) (g : Nat) (g_odds : Int32) (g_pot : Int32) (g_lines : Int32) (g_men : Int32) (g_clauses : Int32) (g_winds : Int32) (g_far0 : Int32) (g_far1 : Int32) (g_qsides : Nat) (g_qgrips : Nat) (g_qwits : Nat) (g_qsays : Nat) (g_qgives0 : Nat) (g_qgives1 : Nat) (g_qfroms : Nat) (g_qtos : Nat) (sl : Nat) (s_qsizes : Nat) (s_qwidths : Nat) (s_qnumbers : Nat) (s_csizes : Nat → Int32) (s_cnumbers : Nat → Int64) (p1 : Int32) (h_g_odds : -999 ≤ (g_odds : Int32).toInt ∧ (g_odds : Int32).toInt ≤ 999) (h_g_pot : -999 ≤ (g_pot : Int32).toInt ∧ (g_pot : Int32).toInt ≤ 999) (h_g_men : 0 ≤ (g_men : Int32).toInt ∧ (g_men : Int32).toInt ≤ 8) (h_g_clauses : 0 ≤ (g_clauses : Int32).toInt ∧ (g_clauses : Int32).toInt ≤ 7) (h_g_winds : 0 ≤ (g_winds : Int32).toInt ∧ (g_winds : Int32).toInt ≤ 4) (h_g_far0 : -999 ≤ (g_far0 : Int32).toInt ∧ (g_far0 : Int32).toInt ≤ 999) (h_g_far1 : -999 ≤ (g_far1 : Int32).toInt ∧ (g_far1 : Int32).toInt ≤ 999) (a_s_csizes_0 : AR (-1) 60 s_csizes) : Met l yX8_isRowOfClauses (Cond.code yX8_isRowOfClauses cX8_isRowOfClauses 6 (some .boolean) :: TB) (rmd 3 0 0) (PP D cA [(h0, .inr (8, [.ref sp_qreached, .ref g])), (g, .inr (3, [.int g_odds, .int g_pot, .int g_lines, .int g_men, .int g_clauses, .int g_winds, .int g_far0, .int g_far1, .ref g_qsides, .ref g_qgrips, .ref g_qwits, .ref g_qsays, .ref g_qgives0, .ref g_qgives1, .ref g_qfroms, .ref g_qtos])), (sl, .inr (7, [.ref s_qsizes, .ref s_qwidths, .ref s_qnumbers])), (s_qsizes, .inl (cA 1, 4, .inl s_csizes)), (s_qnumbers, .inl (cA 2, 240, .inr (.inl s_cnumbers)))] [.ref h0, .ref sl, .int p1]) (vp_Si (fun r => 0 ≤ r.toInt ∧ r.toInt ≤ 1)) 0 0 (fun _ => False) := by
  refine Met.ofW (cc := cX8_isRowOfClauses) (maxL := 6) (ret := (some .boolean)) (by decide) rfl ?_
  intro p e s m args below meth c s₁ B hml hv
  obtain ⟨rfl, hP, hKN⟩ := hv
  have hx := B.exec
  have hb := B.bytes
  have hr := B.returns
  have hts : ∀ w ∈ TB, w.before _ s = true := fun w h => atoms_spec B.pre w (List.mem_cons_of_mem _ h)
  have hown : s.vm.findClass RX8 = some m.cls := findClass_of_methodNamed B.named
  have hlocks := B.notSynchronized
  have hl := lv_entry ([.ref h0, .ref sl, .int p1]) (n := 6) (Nat.le_of_ble_eq_true rfl)
  rw [lg_entry_eq]
  generalize (lg_sl ([.ref h0, .ref sl, .int p1]) ++ List.replicate (6 - (lg_sl ([.ref h0, .ref sl, .int p1])).length) Slot.unset).toArray = ls at hl ⊢
  have hl : lv_has ls 6 [(0, .ref h0), (1, .ref sl), (2, .int p1)] := hl
  refine lv_iconst (v := 0) hx hb dX8_isRowOfClauses_0 (by decide) ?_
  refine lv_istore_n (lv' := [(3, .int 0), (0, .ref h0), (1, .ref sl), (2, .int p1)]) hx hb dX8_isRowOfClauses_1 rfl hl (by decide) rfl (fun ls hl => ?_)
  refine loopW (σ := Int32) (fun _ => []) (fun L3_91 H locs ls => (0 ≤ L3_91.toInt ∧ L3_91.toInt ≤ 60) ∧ H = s.heap ∧ locs = [] ∧ lv_has ls 6 [(3, .int L3_91), (0, .ref h0), (1, .ref sl), (2, .int p1)]) (fun L3_91 => (2147483647 - L3_91.toInt).toNat) ?_ (0 : Int32) ⟨(by decide), rfl, rfl, hl⟩
  intro x_91 H locs ls hI_91 ih_91
  obtain ⟨L3_91, rfl⟩ : ∃ z, z = x_91 := ⟨_, rfl⟩
  obtain ⟨k0_91, rfl, rfl, hl⟩ := hI_91
  have hl : lv_has ls 6 [(3, .int L3_91), (0, .ref h0), (1, .ref sl), (2, .int p1)] := hl
  refine lv_iload_n hx hb dX8_isRowOfClauses_2 rfl (lv_at hl 0 rfl) ?_
  refine lv_aload_n hx hb dX8_isRowOfClauses_3 rfl (lv_at hl 2 rfl) ?_
  refine lv_iload_n hx hb dX8_isRowOfClauses_4 rfl (lv_at hl 3 rfl) ?_
  refine cpVi (rest := [.int L3_91]) ⟨hx, hb, hml, hown, hts⟩ hKN (hP.sub (ws' := [(sl, .inr (7, [.ref s_qsizes, .ref s_qwidths, .ref s_qnumbers])), (s_qsizes, .inl (cA 1, 4, .inl s_csizes))]) [2, 3] rfl) (g_X7_sizeOf l D cA sl s_qsizes s_qwidths s_qnumbers s_csizes p1 a_s_csizes_0) (tb_V tw_955 tw_947 tw_948 tw_107 tw_949) hdX7_sizeOf ⟨rfl, rfl, Nat.le_of_ble_eq_true rfl, Nat.le_of_ble_eq_true rfl⟩ ⟨Nat.le_of_ble_eq_true rfl, Nat.le_of_ble_eq_true rfl⟩ rfl rfl rfl hl.1 rfl (Nat.le_of_ble_eq_true rfl) dX8_isRowOfClauses_5 (fun r_92 hr_92 => ?_)
  refine lv_icmp_ge (tgt := 48) hx hb dX8_isRowOfClauses_8 (by decide) (fun c_93 => ?_) (fun c_93 => ?_)
  · skip
    have k_94 := kk_le rfl rfl c_93
    refine lv_iconst (v := 1) hx hb dX8_isRowOfClauses_48 (by decide) ?_
    exact W.zret (v := 1) hx hb hr (by decide) (fun t ht hW => ⟨1, rfl, (show 0 ≤ (1 : Int32).toInt ∧ (1 : Int32).toInt ≤ 1 from by decide), ht⟩) (fun _ h => by cases h) dX8_isRowOfClauses_49
  · skip
    have k_95 := kk_nle rfl rfl c_93
    refine lv_aload_n hx hb dX8_isRowOfClauses_11 rfl (lv_at hl 2 rfl) ?_
    refine lv_iload_n hx hb dX8_isRowOfClauses_12 rfl (lv_at hl 3 rfl) ?_
    refine lv_iload_n hx hb dX8_isRowOfClauses_13 rfl (lv_at hl 0 rfl) ?_
    refine cpVl (rest := []) ⟨hx, hb, hml, hown, hts⟩ hKN (hP.sub (ws' := [(sl, .inr (7, [.ref s_qsizes, .ref s_qwidths, .ref s_qnumbers])), (s_qsizes, .inl (cA 1, 4, .inl s_csizes)), (s_qnumbers, .inl (cA 2, 240, .inr (.inl s_cnumbers)))]) [2, 3, 4] rfl) (g_X7_numberAt l D cA sl s_qsizes s_qwidths s_qnumbers s_csizes s_cnumbers p1 L3_91 a_s_csizes_0) (tb_V tw_956 tw_957 tw_958 tw_107 tw_959) hdX7_numberAt ⟨rfl, rfl, Nat.le_of_ble_eq_true rfl, Nat.le_of_ble_eq_true rfl⟩ ⟨Nat.le_of_ble_eq_true rfl, Nat.le_of_ble_eq_true rfl⟩ rfl rfl rfl hl.1 rfl (Nat.le_of_ble_eq_true rfl) dX8_isRowOfClauses_14 (fun r_96 hr_96 => ?_)
    refine lv_lstore (lv' := [(4, .long r_96), (3, .int L3_91), (0, .ref h0), (1, .ref sl), (2, .int p1)]) hx hb dX8_isRowOfClauses_17 hl (by decide) rfl (fun ls hl => ?_)
    refine lv_lload hx hb dX8_isRowOfClauses_19 (lv_at hl 0 rfl) ?_
    refine lv_lconst (v := 0) hx hb dX8_isRowOfClauses_21 (by decide) ?_
    refine W.lcmp hx hb dX8_isRowOfClauses_22 ?_
    refine lv_if_lt (tgt := 40) hx hb dX8_isRowOfClauses_23 (by decide) (fun c_97 => ?_) (fun c_97 => ?_)
    · skip
      have b_99 := i64_bd r_96
      have k_98 := jj_lt rfl zj_0 c_97
      refine lv_iconst (v := 0) hx hb dX8_isRowOfClauses_40 (by decide) ?_
      exact W.zret (v := 0) hx hb hr (by decide) (fun t ht hW => ⟨0, rfl, (show 0 ≤ (0 : Int32).toInt ∧ (0 : Int32).toInt ≤ 1 from by decide), ht⟩) (fun _ h => by cases h) dX8_isRowOfClauses_41
    · skip
      have b_101 := i64_bd r_96
      have k_100 := jj_nlt rfl zj_0 c_97
      refine lv_lload hx hb dX8_isRowOfClauses_26 (lv_at hl 0 rfl) ?_
      refine lv_aload_n hx hb dX8_isRowOfClauses_28 rfl (lv_at hl 2 rfl) ?_
      refine va_get (D := D) (ci := 8) (v := .ref g) (C := RX8) (T := TX8) (N := 2) hx hb hts inX8 hown hKN.1 hP 0 rfl rfl 1 (by decide) (hts _ tw_405) (fun _ h9 => h9) rfl dX8_isRowOfClauses_29 ?_
      refine va_get (D := D) (ci := 3) (v := .int g_clauses) (C := RX3) (T := TX3) (N := 16) hx hb hts inX3 hown hKN.1 hP 1 rfl rfl 4 (by decide) (hts _ tw_173) (fun _ h9 => h9) rfl dX8_isRowOfClauses_32 ?_
      obtain ⟨x_102, ex_102⟩ : ∃ y, g_clauses.toInt64 = y := ⟨_, rfl⟩
      refine lv_i2l (v := x_102) hx hb dX8_isRowOfClauses_35 ex_102 ?_
      have k_103 := tt_i2l ex_102
      refine W.lcmp hx hb dX8_isRowOfClauses_36 ?_
      refine lv_if_lt (tgt := 42) hx hb dX8_isRowOfClauses_37 (by decide) (fun c_104 => ?_) (fun c_104 => ?_)
      · skip
        have k_105 := jj_lt rfl rfl c_104
        obtain ⟨x_106, ex_106⟩ : ∃ y : Int32, L3_91 + Int32.ofInt 1 = y := ⟨_, rfl⟩
        have k_107 := ar_add (b := 1) rfl zi_1 ex_106.symm (by omega) (by omega)
        refine lv_iinc (v := x_106) (lv' := [(3, .int x_106), (4, .long r_96), (0, .ref h0), (1, .ref sl), (2, .int p1)]) hx hb dX8_isRowOfClauses_42 hl (k := 1) rfl ex_106 (by decide) rfl (fun ls hl => ?_)
        refine lv_goto (tgt := 2) hx hb dX8_isRowOfClauses_45 (by decide) ?_
        exact ih_91 (x_106) _ _ _ ⟨(show 0 ≤ x_106.toInt ∧ x_106.toInt ≤ 60 from by omega), rfl, rfl, lv_sub hl [0, 2, 3, 4] rfl⟩ (by show (2147483647 - x_106.toInt).toNat < (2147483647 - L3_91.toInt).toNat; omega)
      · skip
        have k_108 := jj_nlt rfl rfl c_104
        refine lv_iconst (v := 0) hx hb dX8_isRowOfClauses_40 (by decide) ?_
        exact W.zret (v := 0) hx hb hr (by decide) (fun t ht hW => ⟨0, rfl, (show 0 ≤ (0 : Int32).toInt ∧ (0 : Int32).toInt ≤ 1 from by decide), ht⟩) (fun _ h => by cases h) dX8_isRowOfClauses_41
set_option maxHeartbeats 8000000 in
set_option maxRecDepth 100000 in
theorem g_X8_meetingsFor (l : Launch) (D : va_G) (cA : Nat → ClassId) (h0 : Nat) (sp_qreached : Nat) (g : Nat) (g_odds : Int32) (g_pot : Int32) (g_lines : Int32) (g_men : Int32) (g_clauses : Int32) (g_winds : Int32) (g_far0 : Int32) (g_far1 : Int32) (g_qsides : Nat) (g_qgrips : Nat) (g_qwits : Nat) (g_qsays : Nat) (g_qgives0 : Nat) (g_qgives1 : Nat) (g_qfroms : Nat) (g_qtos : Nat) (g_csays : Nat → Int32) (sl : Nat) (s_qsizes : Nat) (s_qwidths : Nat) (s_qnumbers : Nat) (s_csizes : Nat → Int32) (s_cnumbers : Nat → Int64) (p1 : Int32) (p2 : Int32) (h_g_odds : -999 ≤ (g_odds : Int32).toInt ∧ (g_odds : Int32).toInt ≤ 999) (h_g_pot : -999 ≤ (g_pot : Int32).toInt ∧ (g_pot : Int32).toInt ≤ 999) (h_g_men : 0 ≤ (g_men : Int32).toInt ∧ (g_men : Int32).toInt ≤ 8) (h_g_clauses : 0 ≤ (g_clauses : Int32).toInt ∧ (g_clauses : Int32).toInt ≤ 7) (h_g_winds : 0 ≤ (g_winds : Int32).toInt ∧ (g_winds : Int32).toInt ≤ 4) (h_g_far0 : -999 ≤ (g_far0 : Int32).toInt ∧ (g_far0 : Int32).toInt ≤ 999) (h_g_far1 : -999 ≤ (g_far1 : Int32).toInt ∧ (g_far1 : Int32).toInt ≤ 999) (a_s_csizes_0 : AR (-1) 60 s_csizes) : Met l yX8_meetingsFor (Cond.code yX8_meetingsFor cX8_meetingsFor 7 (some .int) :: TB) (rmd 3 0 0) (PP D cA [(h0, .inr (8, [.ref sp_qreached, .ref g])), (g, .inr (3, [.int g_odds, .int g_pot, .int g_lines, .int g_men, .int g_clauses, .int g_winds, .int g_far0, .int g_far1, .ref g_qsides, .ref g_qgrips, .ref g_qwits, .ref g_qsays, .ref g_qgives0, .ref g_qgives1, .ref g_qfroms, .ref g_qtos])), (g_qsays, .inl (cA 1, 7, .inl g_csays)), (sl, .inr (7, [.ref s_qsizes, .ref s_qwidths, .ref s_qnumbers])), (s_qsizes, .inl (cA 1, 4, .inl s_csizes)), (s_qnumbers, .inl (cA 2, 240, .inr (.inl s_cnumbers)))] [.ref h0, .ref sl, .int p1, .int p2]) (vp_Si (fun r => True)) 0 0 (fun _ => False) := by
  refine Met.ofW (cc := cX8_meetingsFor) (maxL := 7) (ret := (some .int)) (by decide) rfl ?_
  intro p e s m args below meth c s₁ B hml hv
  obtain ⟨rfl, hP, hKN⟩ := hv
  have hx := B.exec
  have hb := B.bytes
  have hr := B.returns
  have hts : ∀ w ∈ TB, w.before _ s = true := fun w h => atoms_spec B.pre w (List.mem_cons_of_mem _ h)
  have hown : s.vm.findClass RX8 = some m.cls := findClass_of_methodNamed B.named
  have hlocks := B.notSynchronized
  have hl := lv_entry ([.ref h0, .ref sl, .int p1, .int p2]) (n := 7) (Nat.le_of_ble_eq_true rfl)
  rw [lg_entry_eq]
  generalize (lg_sl ([.ref h0, .ref sl, .int p1, .int p2]) ++ List.replicate (7 - (lg_sl ([.ref h0, .ref sl, .int p1, .int p2])).length) Slot.unset).toArray = ls at hl ⊢
  have hl : lv_has ls 7 [(0, .ref h0), (1, .ref sl), (2, .int p1), (3, .int p2)] := hl
  refine lv_iload_n hx hb dX8_meetingsFor_0 rfl (lv_at hl 3 rfl) ?_
  refine lv_istore (lv' := [(4, .int p2), (0, .ref h0), (1, .ref sl), (2, .int p1), (3, .int p2)]) hx hb dX8_meetingsFor_1 hl (by decide) rfl (fun ls hl => ?_)
  refine lv_iconst (v := 0) hx hb dX8_meetingsFor_3 (by decide) ?_
  refine lv_istore (lv' := [(5, .int 0), (4, .int p2), (0, .ref h0), (1, .ref sl), (2, .int p1), (3, .int p2)]) hx hb dX8_meetingsFor_4 hl (by decide) rfl (fun ls hl => ?_)
  have b_87 := i32_bd p2
  refine loopW (σ := Int32 × Int32) (fun _ => []) (fun ⟨L5_86, L4_86⟩ H locs ls => (0 ≤ L5_86.toInt ∧ L5_86.toInt ≤ 60) ∧ H = s.heap ∧ locs = [] ∧ lv_has ls 7 [(5, .int L5_86), (4, .int L4_86), (0, .ref h0), (1, .ref sl), (2, .int p1), (3, .int p2)]) (fun ⟨L5_86, L4_86⟩ => (2147483647 - L5_86.toInt).toNat) ?_ ((0, p2) : Int32 × Int32) ⟨(by decide), rfl, rfl, hl⟩
  intro x_86 H locs ls hI_86 ih_86
  obtain ⟨L5_86, L4_86⟩ := x_86
  obtain ⟨k0_86, rfl, rfl, hl⟩ := hI_86
  have hl : lv_has ls 7 [(5, .int L5_86), (4, .int L4_86), (0, .ref h0), (1, .ref sl), (2, .int p1), (3, .int p2)] := hl
  refine lv_iload hx hb dX8_meetingsFor_6 (lv_at hl 0 rfl) ?_
  refine lv_aload_n hx hb dX8_meetingsFor_8 rfl (lv_at hl 3 rfl) ?_
  refine lv_iload_n hx hb dX8_meetingsFor_9 rfl (lv_at hl 4 rfl) ?_
  refine cpVi (rest := [.int L5_86]) ⟨hx, hb, hml, hown, hts⟩ hKN (hP.sub (ws' := [(sl, .inr (7, [.ref s_qsizes, .ref s_qwidths, .ref s_qnumbers])), (s_qsizes, .inl (cA 1, 4, .inl s_csizes))]) [3, 4] rfl) (g_X7_sizeOf l D cA sl s_qsizes s_qwidths s_qnumbers s_csizes p1 a_s_csizes_0) (tb_V tw_955 tw_947 tw_948 tw_107 tw_949) hdX7_sizeOf ⟨rfl, rfl, Nat.le_of_ble_eq_true rfl, Nat.le_of_ble_eq_true rfl⟩ ⟨Nat.le_of_ble_eq_true rfl, Nat.le_of_ble_eq_true rfl⟩ rfl rfl rfl hl.1 rfl (Nat.le_of_ble_eq_true rfl) dX8_meetingsFor_10 (fun r_88 hr_88 => ?_)
  refine lv_icmp_ge (tgt := 53) hx hb dX8_meetingsFor_13 (by decide) (fun c_89 => ?_) (fun c_89 => ?_)
  · skip
    have k_90 := kk_le rfl rfl c_89
    refine lv_iload hx hb dX8_meetingsFor_53 (lv_at hl 1 rfl) ?_
    refine lv_sipush (v := 1000) hx hb dX8_meetingsFor_55 (by decide) ?_
    refine lv_idiv hx hb dX8_meetingsFor_58 (by decide) ?_
    refine lv_topi (fun x_91 ex_91 => ?_)
    exact W.iret (v := x_91) hx hb hr (fun t ht hW => ⟨x_91, rfl, trivial, ht⟩) (fun _ h => by cases h) dX8_meetingsFor_59
  · skip
    have k_93 := kk_nle rfl rfl c_89
    refine lv_aload_n hx hb dX8_meetingsFor_16 rfl (lv_at hl 2 rfl) ?_
    refine lv_aload_n hx hb dX8_meetingsFor_17 rfl (lv_at hl 3 rfl) ?_
    refine lv_iload_n hx hb dX8_meetingsFor_18 rfl (lv_at hl 4 rfl) ?_
    refine lv_iload hx hb dX8_meetingsFor_19 (lv_at hl 0 rfl) ?_
    refine cpVl (rest := [.ref h0]) ⟨hx, hb, hml, hown, hts⟩ hKN (hP.sub (ws' := [(sl, .inr (7, [.ref s_qsizes, .ref s_qwidths, .ref s_qnumbers])), (s_qsizes, .inl (cA 1, 4, .inl s_csizes)), (s_qnumbers, .inl (cA 2, 240, .inr (.inl s_cnumbers)))]) [3, 4, 5] rfl) (g_X7_numberAt l D cA sl s_qsizes s_qwidths s_qnumbers s_csizes s_cnumbers p1 L5_86 a_s_csizes_0) (tb_V tw_956 tw_957 tw_958 tw_107 tw_959) hdX7_numberAt ⟨rfl, rfl, Nat.le_of_ble_eq_true rfl, Nat.le_of_ble_eq_true rfl⟩ ⟨Nat.le_of_ble_eq_true rfl, Nat.le_of_ble_eq_true rfl⟩ rfl rfl rfl hl.1 rfl (Nat.le_of_ble_eq_true rfl) dX8_meetingsFor_21 (fun r_94 hr_94 => ?_)
    refine cpVi (rest := []) ⟨hx, hb, hml, hown, hts⟩ hKN (hP.sub (ws' := [(h0, .inr (8, [.ref sp_qreached, .ref g])), (g, .inr (3, [.int g_odds, .int g_pot, .int g_lines, .int g_men, .int g_clauses, .int g_winds, .int g_far0, .int g_far1, .ref g_qsides, .ref g_qgrips, .ref g_qwits, .ref g_qsays, .ref g_qgives0, .ref g_qgives1, .ref g_qfroms, .ref g_qtos])), (g_qsays, .inl (cA 1, 7, .inl g_csays))]) [0, 1, 2] rfl) (g_X8_lengthOf l D cA h0 sp_qreached g g_odds g_pot g_lines g_men g_clauses g_winds g_far0 g_far1 g_qsides g_qgrips g_qwits g_qsays g_qgives0 g_qgives1 g_qfroms g_qtos g_csays r_94 (by omega) (by omega) (by omega) (by omega) (by omega) (by omega) (by omega)) (tb_V tw_970 tw_972 tw_17 tw_111 tw_973) hdX8_lengthOf ⟨rfl, rfl, Nat.le_of_ble_eq_true rfl, Nat.le_of_ble_eq_true rfl⟩ ⟨Nat.le_of_ble_eq_true rfl, Nat.le_of_ble_eq_true rfl⟩ rfl rfl rfl hl.1 rfl (Nat.le_of_ble_eq_true rfl) dX8_meetingsFor_24 (fun r_95 hr_95 => ?_)
    refine lv_istore (lv' := [(6, .int r_95), (5, .int L5_86), (4, .int L4_86), (0, .ref h0), (1, .ref sl), (2, .int p1), (3, .int p2)]) hx hb dX8_meetingsFor_27 hl (by decide) rfl (fun ls hl => ?_)
    refine lv_iload hx hb dX8_meetingsFor_29 (lv_at hl 0 rfl) ?_
    refine lv_iload_n hx hb dX8_meetingsFor_31 rfl (lv_at hl 6 rfl) ?_
    refine lv_icmp_le (tgt := 37) hx hb dX8_meetingsFor_32 (by decide) (fun c_96 => ?_) (fun c_96 => ?_)
    · skip
      have b_98 := i32_bd r_95
      have b_99 := i32_bd p2
      have k_97 := kk_le rfl rfl c_96
      refine lv_iload hx hb dX8_meetingsFor_37 (lv_at hl 2 rfl) ?_
      refine lv_iload hx hb dX8_meetingsFor_39 (lv_at hl 0 rfl) ?_
      refine lv_iload_n hx hb dX8_meetingsFor_41 rfl (lv_at hl 6 rfl) ?_
      refine cpSi (rest := []) ⟨hx, hb, hml, hown, hts⟩ hKN (hP.sub (ws' := []) [] rfl) (g_X8_said l D cA L4_86 r_95 p2) (tb_S tw_976 tw_977 tw_111 tw_978) hdX8_said ⟨rfl, rfl, Nat.le_of_ble_eq_true rfl, Nat.le_of_ble_eq_true rfl⟩ ⟨Nat.le_of_ble_eq_true rfl, Nat.le_of_ble_eq_true rfl⟩ rfl hl.1 rfl (Nat.le_of_ble_eq_true rfl) dX8_meetingsFor_42 (fun r_100 hr_100 => ?_)
      refine lv_istore (lv' := [(4, .int r_100), (6, .int r_95), (5, .int L5_86), (0, .ref h0), (1, .ref sl), (2, .int p1), (3, .int p2)]) hx hb dX8_meetingsFor_45 hl (by decide) rfl (fun ls hl => ?_)
      obtain ⟨x_101, ex_101⟩ : ∃ y : Int32, L5_86 + Int32.ofInt 1 = y := ⟨_, rfl⟩
      have k_102 := ar_add (b := 1) rfl zi_1 ex_101.symm (by omega) (by omega)
      refine lv_iinc (v := x_101) (lv' := [(5, .int x_101), (4, .int r_100), (6, .int r_95), (0, .ref h0), (1, .ref sl), (2, .int p1), (3, .int p2)]) hx hb dX8_meetingsFor_47 hl (k := 2) rfl ex_101 (by decide) rfl (fun ls hl => ?_)
      refine lv_goto (tgt := 6) hx hb dX8_meetingsFor_50 (by decide) ?_
      exact ih_86 (x_101, r_100) _ _ _ ⟨(show 0 ≤ x_101.toInt ∧ x_101.toInt ≤ 60 from by omega), rfl, rfl, lv_sub hl [0, 1, 3, 4, 5, 6] rfl⟩ (by show (2147483647 - x_101.toInt).toNat < (2147483647 - L5_86.toInt).toNat; omega)
    · skip
      have b_104 := i32_bd r_95
      have b_105 := i32_bd p2
      have k_103 := kk_nle rfl rfl c_96
      refine lv_iconst (v := (-1)) hx hb dX8_meetingsFor_35 (by decide) ?_
      exact W.iret (v := (-1)) hx hb hr (fun t ht hW => ⟨(-1), rfl, trivial, ht⟩) (fun _ h => by cases h) dX8_meetingsFor_36
set_option maxHeartbeats 8000000 in
set_option maxRecDepth 100000 in
theorem g_X8_firstToWait (l : Launch) (D : va_G) (cA : Nat → ClassId) (h0 : Nat) (sp_qreached : Nat) (g : Nat) (g_odds : Int32) (g_pot : Int32) (g_lines : Int32) (g_men : Int32) (g_clauses : Int32) (g_winds : Int32) (g_far0 : Int32) (g_far1 : Int32) (g_qsides : Nat) (g_qgrips : Nat) (g_qwits : Nat) (g_qsays : Nat) (g_qgives0 : Nat) (g_qgives1 : Nat) (g_qfroms : Nat) (g_qtos : Nat) (g_csays : Nat → Int32) (sl : Nat) (s_qsizes : Nat) (s_qwidths : Nat) (s_qnumbers : Nat) (s_csizes : Nat → Int32) (s_cnumbers : Nat → Int64) (p1 : Int32) (p2 : Int32) (h_g_odds : -999 ≤ (g_odds : Int32).toInt ∧ (g_odds : Int32).toInt ≤ 999) (h_g_pot : -999 ≤ (g_pot : Int32).toInt ∧ (g_pot : Int32).toInt ≤ 999) (h_g_men : 0 ≤ (g_men : Int32).toInt ∧ (g_men : Int32).toInt ≤ 8) (h_g_clauses : 0 ≤ (g_clauses : Int32).toInt ∧ (g_clauses : Int32).toInt ≤ 7) (h_g_winds : 0 ≤ (g_winds : Int32).toInt ∧ (g_winds : Int32).toInt ≤ 4) (h_g_far0 : -999 ≤ (g_far0 : Int32).toInt ∧ (g_far0 : Int32).toInt ≤ 999) (h_g_far1 : -999 ≤ (g_far1 : Int32).toInt ∧ (g_far1 : Int32).toInt ≤ 999) (a_s_csizes_0 : AR (-1) 60 s_csizes) : Met l yX8_firstToWait (Cond.code yX8_firstToWait cX8_firstToWait 9 (some .int) :: TB) (rmd 3 0 0) (PP D cA [(h0, .inr (8, [.ref sp_qreached, .ref g])), (g, .inr (3, [.int g_odds, .int g_pot, .int g_lines, .int g_men, .int g_clauses, .int g_winds, .int g_far0, .int g_far1, .ref g_qsides, .ref g_qgrips, .ref g_qwits, .ref g_qsays, .ref g_qgives0, .ref g_qgives1, .ref g_qfroms, .ref g_qtos])), (g_qsays, .inl (cA 1, 7, .inl g_csays)), (sl, .inr (7, [.ref s_qsizes, .ref s_qwidths, .ref s_qnumbers])), (s_qsizes, .inl (cA 1, 4, .inl s_csizes)), (s_qnumbers, .inl (cA 2, 240, .inr (.inl s_cnumbers)))] [.ref h0, .ref sl, .int p1, .int p2]) (vp_Si (fun r => -1 ≤ r.toInt ∧ r.toInt ≤ 59)) 0 0 (fun _ => False) := by
  refine Met.ofW (cc := cX8_firstToWait) (maxL := 9) (ret := (some .int)) (by decide) rfl ?_
  intro p e s m args below meth c s₁ B hml hv
  obtain ⟨rfl, hP, hKN⟩ := hv
  have hx := B.exec
  have hb := B.bytes
  have hr := B.returns
  have hts : ∀ w ∈ TB, w.before _ s = true := fun w h => atoms_spec B.pre w (List.mem_cons_of_mem _ h)
  have hown : s.vm.findClass RX8 = some m.cls := findClass_of_methodNamed B.named
  have hlocks := B.notSynchronized
  have hl := lv_entry ([.ref h0, .ref sl, .int p1, .int p2]) (n := 9) (Nat.le_of_ble_eq_true rfl)
  rw [lg_entry_eq]
  generalize (lg_sl ([.ref h0, .ref sl, .int p1, .int p2]) ++ List.replicate (9 - (lg_sl ([.ref h0, .ref sl, .int p1, .int p2])).length) Slot.unset).toArray = ls at hl ⊢
  have hl : lv_has ls 9 [(0, .ref h0), (1, .ref sl), (2, .int p1), (3, .int p2)] := hl
  refine lv_iconst (v := (-1)) hx hb dX8_firstToWait_0 (by decide) ?_
  refine lv_istore (lv' := [(4, .int (-1)), (0, .ref h0), (1, .ref sl), (2, .int p1), (3, .int p2)]) hx hb dX8_firstToWait_1 hl (by decide) rfl (fun ls hl => ?_)
  refine lv_iload_n hx hb dX8_firstToWait_3 rfl (lv_at hl 4 rfl) ?_
  refine lv_istore (lv' := [(5, .int p2), (4, .int (-1)), (0, .ref h0), (1, .ref sl), (2, .int p1), (3, .int p2)]) hx hb dX8_firstToWait_4 hl (by decide) rfl (fun ls hl => ?_)
  refine lv_iconst (v := 0) hx hb dX8_firstToWait_6 (by decide) ?_
  refine lv_istore (lv' := [(6, .int 0), (5, .int p2), (4, .int (-1)), (0, .ref h0), (1, .ref sl), (2, .int p1), (3, .int p2)]) hx hb dX8_firstToWait_7 hl (by decide) rfl (fun ls hl => ?_)
  have b_220 := i32_bd p2
  refine loopW (σ := Int32 × Int32 × Int32) (fun _ => []) (fun ⟨L6_219, L5_219, L4_219⟩ H locs ls => (0 ≤ L6_219.toInt ∧ L6_219.toInt ≤ 60) ∧ (-1 ≤ L4_219.toInt ∧ L4_219.toInt ≤ 59) ∧ H = s.heap ∧ locs = [] ∧ lv_has ls 9 [(6, .int L6_219), (5, .int L5_219), (4, .int L4_219), (0, .ref h0), (1, .ref sl), (2, .int p1), (3, .int p2)]) (fun ⟨L6_219, L5_219, L4_219⟩ => (2147483647 - L6_219.toInt).toNat) ?_ ((0, p2, (-1)) : Int32 × Int32 × Int32) ⟨(by decide), (by decide), rfl, rfl, hl⟩
  intro x_219 H locs ls hI_219 ih_219
  obtain ⟨L6_219, L5_219, L4_219⟩ := x_219
  obtain ⟨k0_219, k1_219, rfl, rfl, hl⟩ := hI_219
  have hl : lv_has ls 9 [(6, .int L6_219), (5, .int L5_219), (4, .int L4_219), (0, .ref h0), (1, .ref sl), (2, .int p1), (3, .int p2)] := hl
  refine lv_iload hx hb dX8_firstToWait_9 (lv_at hl 0 rfl) ?_
  refine lv_aload_n hx hb dX8_firstToWait_11 rfl (lv_at hl 4 rfl) ?_
  refine lv_iload_n hx hb dX8_firstToWait_12 rfl (lv_at hl 5 rfl) ?_
  refine cpVi (rest := [.int L6_219]) ⟨hx, hb, hml, hown, hts⟩ hKN (hP.sub (ws' := [(sl, .inr (7, [.ref s_qsizes, .ref s_qwidths, .ref s_qnumbers])), (s_qsizes, .inl (cA 1, 4, .inl s_csizes))]) [3, 4] rfl) (g_X7_sizeOf l D cA sl s_qsizes s_qwidths s_qnumbers s_csizes p1 a_s_csizes_0) (tb_V tw_955 tw_947 tw_948 tw_107 tw_949) hdX7_sizeOf ⟨rfl, rfl, Nat.le_of_ble_eq_true rfl, Nat.le_of_ble_eq_true rfl⟩ ⟨Nat.le_of_ble_eq_true rfl, Nat.le_of_ble_eq_true rfl⟩ rfl rfl rfl hl.1 rfl (Nat.le_of_ble_eq_true rfl) dX8_firstToWait_13 (fun r_221 hr_221 => ?_)
  refine lv_icmp_ge (tgt := 90) hx hb dX8_firstToWait_16 (by decide) (fun c_222 => ?_) (fun c_222 => ?_)
  · skip
    have k_223 := kk_le rfl rfl c_222
    refine lv_iload hx hb dX8_firstToWait_90 (lv_at hl 2 rfl) ?_
    exact W.iret (v := L4_219) hx hb hr (fun t ht hW => ⟨L4_219, rfl, (show -1 ≤ L4_219.toInt ∧ L4_219.toInt ≤ 59 from by omega), ht⟩) (fun _ h => by cases h) dX8_firstToWait_92
  · skip
    have k_224 := kk_nle rfl rfl c_222
    refine lv_aload_n hx hb dX8_firstToWait_19 rfl (lv_at hl 3 rfl) ?_
    refine lv_aload_n hx hb dX8_firstToWait_20 rfl (lv_at hl 4 rfl) ?_
    refine lv_iload_n hx hb dX8_firstToWait_21 rfl (lv_at hl 5 rfl) ?_
    refine lv_iload hx hb dX8_firstToWait_22 (lv_at hl 0 rfl) ?_
    refine cpVl (rest := [.ref h0]) ⟨hx, hb, hml, hown, hts⟩ hKN (hP.sub (ws' := [(sl, .inr (7, [.ref s_qsizes, .ref s_qwidths, .ref s_qnumbers])), (s_qsizes, .inl (cA 1, 4, .inl s_csizes)), (s_qnumbers, .inl (cA 2, 240, .inr (.inl s_cnumbers)))]) [3, 4, 5] rfl) (g_X7_numberAt l D cA sl s_qsizes s_qwidths s_qnumbers s_csizes s_cnumbers p1 L6_219 a_s_csizes_0) (tb_V tw_956 tw_957 tw_958 tw_107 tw_959) hdX7_numberAt ⟨rfl, rfl, Nat.le_of_ble_eq_true rfl, Nat.le_of_ble_eq_true rfl⟩ ⟨Nat.le_of_ble_eq_true rfl, Nat.le_of_ble_eq_true rfl⟩ rfl rfl rfl hl.1 rfl (Nat.le_of_ble_eq_true rfl) dX8_firstToWait_24 (fun r_225 hr_225 => ?_)
    refine cpVi (rest := []) ⟨hx, hb, hml, hown, hts⟩ hKN (hP.sub (ws' := [(h0, .inr (8, [.ref sp_qreached, .ref g])), (g, .inr (3, [.int g_odds, .int g_pot, .int g_lines, .int g_men, .int g_clauses, .int g_winds, .int g_far0, .int g_far1, .ref g_qsides, .ref g_qgrips, .ref g_qwits, .ref g_qsays, .ref g_qgives0, .ref g_qgives1, .ref g_qfroms, .ref g_qtos])), (g_qsays, .inl (cA 1, 7, .inl g_csays))]) [0, 1, 2] rfl) (g_X8_lengthOf l D cA h0 sp_qreached g g_odds g_pot g_lines g_men g_clauses g_winds g_far0 g_far1 g_qsides g_qgrips g_qwits g_qsays g_qgives0 g_qgives1 g_qfroms g_qtos g_csays r_225 (by omega) (by omega) (by omega) (by omega) (by omega) (by omega) (by omega)) (tb_V tw_970 tw_972 tw_17 tw_111 tw_973) hdX8_lengthOf ⟨rfl, rfl, Nat.le_of_ble_eq_true rfl, Nat.le_of_ble_eq_true rfl⟩ ⟨Nat.le_of_ble_eq_true rfl, Nat.le_of_ble_eq_true rfl⟩ rfl rfl rfl hl.1 rfl (Nat.le_of_ble_eq_true rfl) dX8_firstToWait_27 (fun r_226 hr_226 => ?_)
    refine lv_istore (lv' := [(7, .int r_226), (6, .int L6_219), (5, .int L5_219), (4, .int L4_219), (0, .ref h0), (1, .ref sl), (2, .int p1), (3, .int p2)]) hx hb dX8_firstToWait_30 hl (by decide) rfl (fun ls hl => ?_)
    refine lv_iload hx hb dX8_firstToWait_32 (lv_at hl 0 rfl) ?_
    refine lv_iload_n hx hb dX8_firstToWait_34 rfl (lv_at hl 7 rfl) ?_
    refine lv_icmp_le (tgt := 40) hx hb dX8_firstToWait_35 (by decide) (fun c_227 => ?_) (fun c_227 => ?_)
    · skip
      have b_229 := i32_bd r_226
      have b_230 := i32_bd p2
      have k_228 := kk_le rfl rfl c_227
      refine lv_iload hx hb dX8_firstToWait_40 (lv_at hl 2 rfl) ?_
      refine lv_iload hx hb dX8_firstToWait_42 (lv_at hl 0 rfl) ?_
      refine lv_iload_n hx hb dX8_firstToWait_44 rfl (lv_at hl 7 rfl) ?_
      refine cpSi (rest := []) ⟨hx, hb, hml, hown, hts⟩ hKN (hP.sub (ws' := []) [] rfl) (g_X8_said l D cA L5_219 r_226 p2) (tb_S tw_976 tw_977 tw_111 tw_978) hdX8_said ⟨rfl, rfl, Nat.le_of_ble_eq_true rfl, Nat.le_of_ble_eq_true rfl⟩ ⟨Nat.le_of_ble_eq_true rfl, Nat.le_of_ble_eq_true rfl⟩ rfl hl.1 rfl (Nat.le_of_ble_eq_true rfl) dX8_firstToWait_45 (fun r_231 hr_231 => ?_)
      refine lv_istore (lv' := [(8, .int r_231), (7, .int r_226), (6, .int L6_219), (5, .int L5_219), (4, .int L4_219), (0, .ref h0), (1, .ref sl), (2, .int p1), (3, .int p2)]) hx hb dX8_firstToWait_48 hl (by decide) rfl (fun ls hl => ?_)
      refine lv_iload hx hb dX8_firstToWait_50 (lv_at hl 2 rfl) ?_
      refine lv_if_le (tgt := 80) hx hb dX8_firstToWait_52 (by decide) (fun c_232 => ?_) (fun c_232 => ?_)
      · skip
        have k_233 := kk_le rfl zi_0 c_232
        refine lv_iload hx hb dX8_firstToWait_80 (lv_at hl 0 rfl) ?_
        refine lv_istore (lv' := [(5, .int r_231), (8, .int r_231), (7, .int r_226), (6, .int L6_219), (4, .int L4_219), (0, .ref h0), (1, .ref sl), (2, .int p1), (3, .int p2)]) hx hb dX8_firstToWait_82 hl (by decide) rfl (fun ls hl => ?_)
        obtain ⟨x_234, ex_234⟩ : ∃ y : Int32, L6_219 + Int32.ofInt 1 = y := ⟨_, rfl⟩
        have k_235 := ar_add (b := 1) rfl zi_1 ex_234.symm (by omega) (by omega)
        refine lv_iinc (v := x_234) (lv' := [(6, .int x_234), (5, .int r_231), (8, .int r_231), (7, .int r_226), (4, .int L4_219), (0, .ref h0), (1, .ref sl), (2, .int p1), (3, .int p2)]) hx hb dX8_firstToWait_84 hl (k := 3) rfl ex_234 (by decide) rfl (fun ls hl => ?_)
        refine lv_goto (tgt := 9) hx hb dX8_firstToWait_87 (by decide) ?_
        exact ih_219 (x_234, r_231, L4_219) _ _ _ ⟨(show 0 ≤ x_234.toInt ∧ x_234.toInt ≤ 60 from by omega), (show -1 ≤ L4_219.toInt ∧ L4_219.toInt ≤ 59 from by omega), rfl, rfl, lv_sub hl [0, 1, 4, 5, 6, 7, 8] rfl⟩ (by show (2147483647 - x_234.toInt).toNat < (2147483647 - L6_219.toInt).toNat; omega)
      · skip
        have k_236 := kk_nle rfl zi_0 c_232
        refine lv_iload hx hb dX8_firstToWait_55 (lv_at hl 4 rfl) ?_
        refine lv_iconst (v := (-1)) hx hb dX8_firstToWait_57 (by decide) ?_
        refine lv_icmp_ne (tgt := 80) hx hb dX8_firstToWait_58 (by decide) (fun c_237 => ?_) (fun c_237 => ?_)
        · skip
          have k_238 := kk_ne rfl zi_m1 c_237
          refine lv_iload hx hb dX8_firstToWait_80 (lv_at hl 0 rfl) ?_
          refine lv_istore (lv' := [(5, .int r_231), (8, .int r_231), (7, .int r_226), (6, .int L6_219), (4, .int L4_219), (0, .ref h0), (1, .ref sl), (2, .int p1), (3, .int p2)]) hx hb dX8_firstToWait_82 hl (by decide) rfl (fun ls hl => ?_)
          obtain ⟨x_239, ex_239⟩ : ∃ y : Int32, L6_219 + Int32.ofInt 1 = y := ⟨_, rfl⟩
          have k_240 := ar_add (b := 1) rfl zi_1 ex_239.symm (by omega) (by omega)
          refine lv_iinc (v := x_239) (lv' := [(6, .int x_239), (5, .int r_231), (8, .int r_231), (7, .int r_226), (4, .int L4_219), (0, .ref h0), (1, .ref sl), (2, .int p1), (3, .int p2)]) hx hb dX8_firstToWait_84 hl (k := 3) rfl ex_239 (by decide) rfl (fun ls hl => ?_)
          refine lv_goto (tgt := 9) hx hb dX8_firstToWait_87 (by decide) ?_
          exact ih_219 (x_239, r_231, L4_219) _ _ _ ⟨(show 0 ≤ x_239.toInt ∧ x_239.toInt ≤ 60 from by omega), (show -1 ≤ L4_219.toInt ∧ L4_219.toInt ≤ 59 from by omega), rfl, rfl, lv_sub hl [0, 1, 4, 5, 6, 7, 8] rfl⟩ (by show (2147483647 - x_239.toInt).toNat < (2147483647 - L6_219.toInt).toNat; omega)
        · skip
          have k_241 := kk_eq rfl zi_m1 c_237
          refine lv_iload hx hb dX8_firstToWait_61 (lv_at hl 0 rfl) ?_
          refine lv_sipush (v := 1000) hx hb dX8_firstToWait_63 (by decide) ?_
          refine lv_idiv hx hb dX8_firstToWait_66 (by decide) ?_
          refine lv_topi (fun x_242 ex_242 => ?_)
          refine lv_iload hx hb dX8_firstToWait_67 (lv_at hl 3 rfl) ?_
          refine lv_sipush (v := 1000) hx hb dX8_firstToWait_69 (by decide) ?_
          refine lv_idiv hx hb dX8_firstToWait_72 (by decide) ?_
          refine lv_topi (fun x_244 ex_244 => ?_)
          refine lv_icmp_le (tgt := 80) hx hb dX8_firstToWait_73 (by decide) (fun c_246 => ?_) (fun c_246 => ?_)
          · skip
            have b_248 := i32_bd x_242
            have b_249 := i32_bd x_244
            have k_247 := kk_le rfl rfl c_246
            refine lv_iload hx hb dX8_firstToWait_80 (lv_at hl 0 rfl) ?_
            refine lv_istore (lv' := [(5, .int r_231), (8, .int r_231), (7, .int r_226), (6, .int L6_219), (4, .int L4_219), (0, .ref h0), (1, .ref sl), (2, .int p1), (3, .int p2)]) hx hb dX8_firstToWait_82 hl (by decide) rfl (fun ls hl => ?_)
            obtain ⟨x_250, ex_250⟩ : ∃ y : Int32, L6_219 + Int32.ofInt 1 = y := ⟨_, rfl⟩
            have k_251 := ar_add (b := 1) rfl zi_1 ex_250.symm (by omega) (by omega)
            refine lv_iinc (v := x_250) (lv' := [(6, .int x_250), (5, .int r_231), (8, .int r_231), (7, .int r_226), (4, .int L4_219), (0, .ref h0), (1, .ref sl), (2, .int p1), (3, .int p2)]) hx hb dX8_firstToWait_84 hl (k := 3) rfl ex_250 (by decide) rfl (fun ls hl => ?_)
            refine lv_goto (tgt := 9) hx hb dX8_firstToWait_87 (by decide) ?_
            exact ih_219 (x_250, r_231, L4_219) _ _ _ ⟨(show 0 ≤ x_250.toInt ∧ x_250.toInt ≤ 60 from by omega), (show -1 ≤ L4_219.toInt ∧ L4_219.toInt ≤ 59 from by omega), rfl, rfl, lv_sub hl [0, 1, 4, 5, 6, 7, 8] rfl⟩ (by show (2147483647 - x_250.toInt).toNat < (2147483647 - L6_219.toInt).toNat; omega)
          · skip
            have b_253 := i32_bd x_242
            have b_254 := i32_bd x_244
            have k_252 := kk_nle rfl rfl c_246
            refine lv_iload hx hb dX8_firstToWait_76 (lv_at hl 2 rfl) ?_
            refine lv_istore (lv' := [(4, .int L6_219), (8, .int r_231), (7, .int r_226), (6, .int L6_219), (5, .int L5_219), (0, .ref h0), (1, .ref sl), (2, .int p1), (3, .int p2)]) hx hb dX8_firstToWait_78 hl (by decide) rfl (fun ls hl => ?_)
            refine lv_iload hx hb dX8_firstToWait_80 (lv_at hl 1 rfl) ?_
            refine lv_istore (lv' := [(5, .int r_231), (4, .int L6_219), (8, .int r_231), (7, .int r_226), (6, .int L6_219), (0, .ref h0), (1, .ref sl), (2, .int p1), (3, .int p2)]) hx hb dX8_firstToWait_82 hl (by decide) rfl (fun ls hl => ?_)
            obtain ⟨x_255, ex_255⟩ : ∃ y : Int32, L6_219 + Int32.ofInt 1 = y := ⟨_, rfl⟩
            have k_256 := ar_add (b := 1) rfl zi_1 ex_255.symm (by omega) (by omega)
            refine lv_iinc (v := x_255) (lv' := [(6, .int x_255), (5, .int r_231), (4, .int L6_219), (8, .int r_231), (7, .int r_226), (0, .ref h0), (1, .ref sl), (2, .int p1), (3, .int p2)]) hx hb dX8_firstToWait_84 hl (k := 4) rfl ex_255 (by decide) rfl (fun ls hl => ?_)
            refine lv_goto (tgt := 9) hx hb dX8_firstToWait_87 (by decide) ?_
            exact ih_219 (x_255, r_231, L6_219) _ _ _ ⟨(show 0 ≤ x_255.toInt ∧ x_255.toInt ≤ 60 from by omega), (show -1 ≤ L6_219.toInt ∧ L6_219.toInt ≤ 59 from by omega), rfl, rfl, lv_sub hl [0, 1, 2, 5, 6, 7, 8] rfl⟩ (by show (2147483647 - x_255.toInt).toNat < (2147483647 - L6_219.toInt).toNat; omega)
    · skip
      have b_258 := i32_bd r_226
      have b_259 := i32_bd p2
      have k_257 := kk_nle rfl rfl c_227
      refine lv_iconst (v := (-1)) hx hb dX8_firstToWait_38 (by decide) ?_
      exact W.iret (v := (-1)) hx hb hr (fun t ht hW => ⟨(-1), rfl, (show -1 ≤ ((-1) : Int32).toInt ∧ ((-1) : Int32).toInt ≤ 59 from by decide), ht⟩) (fun _ h => by cases h) dX8_firstToWait_39
set_option maxHeartbeats 8000000 in
set_option maxRecDepth 100000 in
theorem g_X8_leastReached (l : Launch) (D : va_G) (cA : Nat → ClassId) (h0 : Nat) (sp_qreached : Nat) (g : Nat) (sp_creached : Nat → Int32) (g_odds : Int32) (g_pot : Int32) (g_lines : Int32) (g_men : Int32) (g_clauses : Int32) (g_winds : Int32) (g_far0 : Int32) (g_far1 : Int32) (g_qsides : Nat) (g_qgrips : Nat) (g_qwits : Nat) (g_qsays : Nat) (g_qgives0 : Nat) (g_qgives1 : Nat) (g_qfroms : Nat) (g_qtos : Nat) (g_csays : Nat → Int32) (p0 : Int32) (p1 : Int32) (h_g_odds : -999 ≤ (g_odds : Int32).toInt ∧ (g_odds : Int32).toInt ≤ 999) (h_g_pot : -999 ≤ (g_pot : Int32).toInt ∧ (g_pot : Int32).toInt ≤ 999) (h_g_men : 0 ≤ (g_men : Int32).toInt ∧ (g_men : Int32).toInt ≤ 8) (h_g_clauses : 0 ≤ (g_clauses : Int32).toInt ∧ (g_clauses : Int32).toInt ≤ 7) (h_g_winds : 0 ≤ (g_winds : Int32).toInt ∧ (g_winds : Int32).toInt ≤ 4) (h_g_far0 : -999 ≤ (g_far0 : Int32).toInt ∧ (g_far0 : Int32).toInt ≤ 999) (h_g_far1 : -999 ≤ (g_far1 : Int32).toInt ∧ (g_far1 : Int32).toInt ≤ 999) (h_p0 : 1 ≤ (p0 : Int32).toInt ∧ (p0 : Int32).toInt ≤ 127) : Met l yX8_leastReached (Cond.code yX8_leastReached cX8_leastReached 5 (some .int) :: TB) (rmd 2 0 0) (PP D cA [(h0, .inr (8, [.ref sp_qreached, .ref g])), (sp_qreached, .inl (cA 1, 128, .inl sp_creached)), (g, .inr (3, [.int g_odds, .int g_pot, .int g_lines, .int g_men, .int g_clauses, .int g_winds, .int g_far0, .int g_far1, .ref g_qsides, .ref g_qgrips, .ref g_qwits, .ref g_qsays, .ref g_qgives0, .ref g_qgives1, .ref g_qfroms, .ref g_qtos])), (g_qsays, .inl (cA 1, 7, .inl g_csays))] [.ref h0, .int p0, .int p1]) (vp_Si (fun r => r.toInt ≤ 8000)) 0 0 (fun _ => False) := by
  refine Met.ofW (cc := cX8_leastReached) (maxL := 5) (ret := (some .int)) (by decide) rfl ?_
  intro p e s m args below meth c s₁ B hml hv
  obtain ⟨rfl, hP, hKN⟩ := hv
  have hx := B.exec
  have hb := B.bytes
  have hr := B.returns
  have hts : ∀ w ∈ TB, w.before _ s = true := fun w h => atoms_spec B.pre w (List.mem_cons_of_mem _ h)
  have hown : s.vm.findClass RX8 = some m.cls := findClass_of_methodNamed B.named
  have hlocks := B.notSynchronized
  have hl := lv_entry ([.ref h0, .int p0, .int p1]) (n := 5) (Nat.le_of_ble_eq_true rfl)
  rw [lg_entry_eq]
  generalize (lg_sl ([.ref h0, .int p0, .int p1]) ++ List.replicate (5 - (lg_sl ([.ref h0, .int p0, .int p1])).length) Slot.unset).toArray = ls at hl ⊢
  have hl : lv_has ls 5 [(0, .ref h0), (1, .int p0), (2, .int p1)] := hl
  refine lv_sipush (v := 8000) hx hb dX8_leastReached_0 (by decide) ?_
  refine lv_istore_n (lv' := [(3, .int 8000), (0, .ref h0), (1, .int p0), (2, .int p1)]) hx hb dX8_leastReached_3 rfl hl (by decide) rfl (fun ls hl => ?_)
  refine lv_iconst (v := 0) hx hb dX8_leastReached_4 (by decide) ?_
  refine lv_istore (lv' := [(4, .int 0), (3, .int 8000), (0, .ref h0), (1, .int p0), (2, .int p1)]) hx hb dX8_leastReached_5 hl (by decide) rfl (fun ls hl => ?_)
  refine loopW (σ := Int32 × Int32) (fun _ => []) (fun ⟨L4_126, L3_126⟩ H locs ls => (0 ≤ L4_126.toInt ∧ L4_126.toInt ≤ 7) ∧ (L3_126.toInt ≤ 8000) ∧ H = s.heap ∧ locs = [] ∧ lv_has ls 5 [(4, .int L4_126), (3, .int L3_126), (0, .ref h0), (1, .int p0), (2, .int p1)]) (fun ⟨L4_126, L3_126⟩ => (2147483647 - L4_126.toInt).toNat) ?_ ((0, 8000) : Int32 × Int32) ⟨(by decide), (by decide), rfl, rfl, hl⟩
  intro x_126 H locs ls hI_126 ih_126
  obtain ⟨L4_126, L3_126⟩ := x_126
  obtain ⟨k0_126, k1_126, rfl, rfl, hl⟩ := hI_126
  have hl : lv_has ls 5 [(4, .int L4_126), (3, .int L3_126), (0, .ref h0), (1, .int p0), (2, .int p1)] := hl
  refine lv_iload hx hb dX8_leastReached_7 (lv_at hl 0 rfl) ?_
  refine lv_aload_n hx hb dX8_leastReached_9 rfl (lv_at hl 2 rfl) ?_
  refine va_get (D := D) (ci := 8) (v := .ref g) (C := RX8) (T := TX8) (N := 2) hx hb hts inX8 hown hKN.1 hP 0 rfl rfl 1 (by decide) (hts _ tw_405) (fun _ h9 => h9) rfl dX8_leastReached_10 ?_
  refine va_get (D := D) (ci := 3) (v := .int g_clauses) (C := RX3) (T := TX3) (N := 16) hx hb hts inX3 hown hKN.1 hP 2 rfl rfl 4 (by decide) (hts _ tw_173) (fun _ h9 => h9) rfl dX8_leastReached_13 ?_
  refine lv_icmp_ge (tgt := 66) hx hb dX8_leastReached_16 (by decide) (fun c_127 => ?_) (fun c_127 => ?_)
  · skip
    have k_128 := kk_le rfl rfl c_127
    refine lv_iload_n hx hb dX8_leastReached_66 rfl (lv_at hl 1 rfl) ?_
    exact W.iret (v := L3_126) hx hb hr (fun t ht hW => ⟨L3_126, rfl, (show L3_126.toInt ≤ 8000 from by omega), ht⟩) (fun _ h => by cases h) dX8_leastReached_67
  · skip
    have k_129 := kk_nle rfl rfl c_127
    refine lv_iload_n hx hb dX8_leastReached_19 rfl (lv_at hl 3 rfl) ?_
    refine lv_iload hx hb dX8_leastReached_20 (lv_at hl 0 rfl) ?_
    refine lv_ishr hx hb dX8_leastReached_22 ?_
    refine lv_topi (fun x_130 ex_130 => ?_)
    refine lv_iconst (v := 1) hx hb dX8_leastReached_23 (by decide) ?_
    refine lv_iand hx hb dX8_leastReached_24 ?_
    refine lv_topi (fun x_132 ex_132 => ?_)
    have k_133 := ar_andR zi_1 ex_132 (by omega)
    refine lv_iconst (v := 1) hx hb dX8_leastReached_25 (by decide) ?_
    refine lv_icmp_ne (tgt := 60) hx hb dX8_leastReached_26 (by decide) (fun c_134 => ?_) (fun c_134 => ?_)
    · skip
      have k_135 := kk_ne rfl zi_1 c_134
      obtain ⟨x_136, ex_136⟩ : ∃ y : Int32, L4_126 + Int32.ofInt 1 = y := ⟨_, rfl⟩
      have k_137 := ar_add (b := 1) rfl zi_1 ex_136.symm (by omega) (by omega)
      refine lv_iinc (v := x_136) (lv' := [(4, .int x_136), (3, .int L3_126), (0, .ref h0), (1, .int p0), (2, .int p1)]) hx hb dX8_leastReached_60 hl (k := 0) rfl ex_136 (by decide) rfl (fun ls hl => ?_)
      refine lv_goto (tgt := 7) hx hb dX8_leastReached_63 (by decide) ?_
      exact ih_126 (x_136, L3_126) _ _ _ ⟨(show 0 ≤ x_136.toInt ∧ x_136.toInt ≤ 7 from by omega), (show L3_126.toInt ≤ 8000 from by omega), rfl, rfl, lv_sub hl [0, 1, 2, 3, 4] rfl⟩ (by show (2147483647 - x_136.toInt).toNat < (2147483647 - L4_126.toInt).toNat; omega)
    · skip
      have k_138 := kk_eq rfl zi_1 c_134
      refine lv_iload_n hx hb dX8_leastReached_29 rfl (lv_at hl 1 rfl) ?_
      refine lv_aload_n hx hb dX8_leastReached_30 rfl (lv_at hl 2 rfl) ?_
      refine va_get (D := D) (ci := 8) (v := .ref sp_qreached) (C := RX8) (T := TX8) (N := 2) hx hb hts inX8 hown hKN.1 hP 0 rfl rfl 0 (by decide) (hts _ tw_404) (fun _ h9 => h9) rfl dX8_leastReached_31 ?_
      refine lv_iload_n hx hb dX8_leastReached_34 rfl (lv_at hl 3 rfl) ?_
      refine lv_iconst (v := 1) hx hb dX8_leastReached_35 (by decide) ?_
      refine lv_iload hx hb dX8_leastReached_36 (lv_at hl 0 rfl) ?_
      refine lv_ishl hx hb dX8_leastReached_38 ?_
      refine lv_topi (fun x_139 ex_139 => ?_)
      have k_140 := ar_shl1 ex_139 (by omega) (by omega)
      refine lv_iconst (v := (-1)) hx hb dX8_leastReached_39 (by decide) ?_
      refine lv_ixor hx hb dX8_leastReached_40 ?_
      refine lv_topi (fun x_141 ex_141 => ?_)
      refine lv_iand hx hb dX8_leastReached_41 ?_
      refine lv_topi (fun x_143 ex_143 => ?_)
      have k_144 := ar_andL rfl ex_143 (by omega)
      refine va_iald hx hb hKN.1 hP 1 1 rfl rfl (vp_in_iff.mpr ⟨by omega, by omega⟩) dX8_leastReached_42 ?_
      refine lv_topi (fun x_145 ex_145 => ?_)
      refine lv_aload_n hx hb dX8_leastReached_43 rfl (lv_at hl 2 rfl) ?_
      refine va_get (D := D) (ci := 8) (v := .ref g) (C := RX8) (T := TX8) (N := 2) hx hb hts inX8 hown hKN.1 hP 0 rfl rfl 1 (by decide) (hts _ tw_405) (fun _ h9 => h9) rfl dX8_leastReached_44 ?_
      refine lv_iload hx hb dX8_leastReached_47 (lv_at hl 0 rfl) ?_
      refine cpVi (rest := [.int x_145, .int L3_126]) ⟨hx, hb, hml, hown, hts⟩ hKN (hP.sub (ws' := [(g, .inr (3, [.int g_odds, .int g_pot, .int g_lines, .int g_men, .int g_clauses, .int g_winds, .int g_far0, .int g_far1, .ref g_qsides, .ref g_qgrips, .ref g_qwits, .ref g_qsays, .ref g_qgives0, .ref g_qgives1, .ref g_qfroms, .ref g_qtos])), (g_qsays, .inl (cA 1, 7, .inl g_csays))]) [2, 3] rfl) (g_X3_lengthOf l D cA g g_odds g_pot g_lines g_men g_clauses g_winds g_far0 g_far1 g_qsides g_qgrips g_qwits g_qsays g_qgives0 g_qgives1 g_qfroms g_qtos g_csays L4_126 (by omega) (by omega) (by omega) (by omega) (by omega) (by omega) (by omega)) (tb_V tw_975 tw_724 tw_725 tw_104 tw_726) hdX3_lengthOf ⟨rfl, rfl, Nat.le_of_ble_eq_true rfl, Nat.le_of_ble_eq_true rfl⟩ ⟨Nat.le_of_ble_eq_true rfl, Nat.le_of_ble_eq_true rfl⟩ rfl rfl rfl hl.1 rfl (Nat.le_of_ble_eq_true rfl) dX8_leastReached_49 (fun r_146 hr_146 => ?_)
      refine lv_iload_n hx hb dX8_leastReached_52 rfl (lv_at hl 4 rfl) ?_
      refine cpSi (rest := [.int L3_126]) ⟨hx, hb, hml, hown, hts⟩ hKN (hP.sub (ws' := []) [] rfl) (g_X8_said l D cA x_145 r_146 p1) (tb_S tw_976 tw_977 tw_111 tw_978) hdX8_said ⟨rfl, rfl, Nat.le_of_ble_eq_true rfl, Nat.le_of_ble_eq_true rfl⟩ ⟨Nat.le_of_ble_eq_true rfl, Nat.le_of_ble_eq_true rfl⟩ rfl hl.1 rfl (Nat.le_of_ble_eq_true rfl) dX8_leastReached_53 (fun r_147 hr_147 => ?_)
      refine cpSi (rest := []) ⟨hx, hb, hml, hown, hts⟩ hKN (hP.sub (ws' := []) [] rfl) (g_J9_min_7cf53 l D cA L3_126 r_147) (tb_S tw_1012 tw_555 tw_115 tw_556) hdJ9_min_7cf53 ⟨rfl, rfl, Nat.le_of_ble_eq_true rfl, Nat.le_of_ble_eq_true rfl⟩ ⟨Nat.le_of_ble_eq_true rfl, Nat.le_of_ble_eq_true rfl⟩ rfl hl.1 rfl (Nat.le_of_ble_eq_true rfl) dX8_leastReached_56 (fun r_148 hr_148 => ?_)
      obtain ⟨k_148_0_0, k_148_0_1, k_148_0_2⟩ := hr_148
      refine lv_istore_n (lv' := [(3, .int r_148), (4, .int L4_126), (0, .ref h0), (1, .int p0), (2, .int p1)]) hx hb dX8_leastReached_59 rfl hl (by decide) rfl (fun ls hl => ?_)
      obtain ⟨x_149, ex_149⟩ : ∃ y : Int32, L4_126 + Int32.ofInt 1 = y := ⟨_, rfl⟩
      have k_150 := ar_add (b := 1) rfl zi_1 ex_149.symm (by omega) (by omega)
      refine lv_iinc (v := x_149) (lv' := [(4, .int x_149), (3, .int r_148), (0, .ref h0), (1, .int p0), (2, .int p1)]) hx hb dX8_leastReached_60 hl (k := 1) rfl ex_149 (by decide) rfl (fun ls hl => ?_)
      refine lv_goto (tgt := 7) hx hb dX8_leastReached_63 (by decide) ?_
      exact ih_126 (x_149, r_148) _ _ _ ⟨(show 0 ≤ x_149.toInt ∧ x_149.toInt ≤ 7 from by omega), (show r_148.toInt ≤ 8000 from by omega), rfl, rfl, lv_sub hl [0, 1, 2, 3, 4] rfl⟩ (by show (2147483647 - x_149.toInt).toNat < (2147483647 - L4_126.toInt).toNat; omega)
set_option maxHeartbeats 8000000 in
set_option maxRecDepth 100000 in
theorem g_X8_fewestFrom (l : Launch) (D : va_G) (cA : Nat → ClassId) (sz : Nat) (h0 : Nat) (sp_qreached : Nat) (g : Nat) (sp_creached : Nat → Int32) (g_odds : Int32) (g_pot : Int32) (g_lines : Int32) (g_men : Int32) (g_clauses : Int32) (g_winds : Int32) (g_far0 : Int32) (g_far1 : Int32) (g_qsides : Nat) (g_qgrips : Nat) (g_qwits : Nat) (g_qsays : Nat) (g_qgives0 : Nat) (g_qgives1 : Nat) (g_qfroms : Nat) (g_qtos : Nat) (g_csays : Nat → Int32) (p0 : Int32) (p1 : Int32) (p2 : Int32) (h_g_odds : -999 ≤ (g_odds : Int32).toInt ∧ (g_odds : Int32).toInt ≤ 999) (h_g_pot : -999 ≤ (g_pot : Int32).toInt ∧ (g_pot : Int32).toInt ≤ 999) (h_g_men : 0 ≤ (g_men : Int32).toInt ∧ (g_men : Int32).toInt ≤ 8) (h_g_clauses : 0 ≤ (g_clauses : Int32).toInt ∧ (g_clauses : Int32).toInt ≤ 7) (h_g_winds : 0 ≤ (g_winds : Int32).toInt ∧ (g_winds : Int32).toInt ≤ 4) (h_g_far0 : -999 ≤ (g_far0 : Int32).toInt ∧ (g_far0 : Int32).toInt ≤ 999) (h_g_far1 : -999 ≤ (g_far1 : Int32).toInt ∧ (g_far1 : Int32).toInt ≤ 999) : Met l yX8_fewestFrom (Cond.code yX8_fewestFrom cX8_fewestFrom 5 (some .int) :: TB) (rmd 3 0 0) (PM D cA sz [(h0, .inr (8, [.ref sp_qreached, .ref g])), (sp_qreached, .inl (cA 1, 128, .inl sp_creached)), (g, .inr (3, [.int g_odds, .int g_pot, .int g_lines, .int g_men, .int g_clauses, .int g_winds, .int g_far0, .int g_far1, .ref g_qsides, .ref g_qgrips, .ref g_qwits, .ref g_qsays, .ref g_qgives0, .ref g_qgives1, .ref g_qfroms, .ref g_qtos])), (g_qsays, .inl (cA 1, 7, .inl g_csays))] [.ref h0, .int p0, .int p1, .int p2]) (va_Qi (fun r (u : SU) => True) (fun u t => va_P D vwCl [(h0, .inr (8, [.ref sp_qreached, .ref g])), (sp_qreached, .inl (cA 1, 128, .inl (u.2.2.1 0))), (g, .inr (3, [.int g_odds, .int g_pot, .int g_lines, .int g_men, .int g_clauses, .int g_winds, .int g_far0, .int g_far1, .ref g_qsides, .ref g_qgrips, .ref g_qwits, .ref g_qsays, .ref g_qgives0, .ref g_qgives1, .ref g_qfroms, .ref g_qtos])), (g_qsays, .inl (cA 1, 7, .inl g_csays))] t.heap ∧ va_D (va_A [(h0, .inr (8, [.ref sp_qreached, .ref g])), (sp_qreached, .inl (cA 1, 128, .inl sp_creached)), (g, .inr (3, [.int g_odds, .int g_pot, .int g_lines, .int g_men, .int g_clauses, .int g_winds, .int g_far0, .int g_far1, .ref g_qsides, .ref g_qgrips, .ref g_qwits, .ref g_qsays, .ref g_qgives0, .ref g_qgives1, .ref g_qfroms, .ref g_qtos])), (g_qsays, .inl (cA 1, 7, .inl g_csays))] sz) [(h0, .inr (8, [.ref sp_qreached, .ref g])), (sp_qreached, .inl (cA 1, 128, .inl (u.2.2.1 0))), (g, .inr (3, [.int g_odds, .int g_pot, .int g_lines, .int g_men, .int g_clauses, .int g_winds, .int g_far0, .int g_far1, .ref g_qsides, .ref g_qgrips, .ref g_qwits, .ref g_qsays, .ref g_qgives0, .ref g_qgives1, .ref g_qfroms, .ref g_qtos])), (g_qsays, .inl (cA 1, 7, .inl g_csays))]) (va_A [(h0, .inr (8, [.ref sp_qreached, .ref g])), (sp_qreached, .inl (cA 1, 128, .inl sp_creached)), (g, .inr (3, [.int g_odds, .int g_pot, .int g_lines, .int g_men, .int g_clauses, .int g_winds, .int g_far0, .int g_far1, .ref g_qsides, .ref g_qgrips, .ref g_qwits, .ref g_qsays, .ref g_qgives0, .ref g_qgives1, .ref g_qfroms, .ref g_qtos])), (g_qsays, .inl (cA 1, 7, .inl g_csays))] sz)) 0 0 (va_A [(h0, .inr (8, [.ref sp_qreached, .ref g])), (sp_qreached, .inl (cA 1, 128, .inl sp_creached)), (g, .inr (3, [.int g_odds, .int g_pot, .int g_lines, .int g_men, .int g_clauses, .int g_winds, .int g_far0, .int g_far1, .ref g_qsides, .ref g_qgrips, .ref g_qwits, .ref g_qsays, .ref g_qgives0, .ref g_qgives1, .ref g_qfroms, .ref g_qtos])), (g_qsays, .inl (cA 1, 7, .inl g_csays))] sz) := by
  refine Met.ofW (cc := cX8_fewestFrom) (maxL := 5) (ret := (some .int)) (by decide) rfl ?_
  intro p e s m args below meth c s₁ B hml hv
  obtain ⟨rfl, hsz, hP, hKN, hD0⟩ := hv
  have hx := B.exec
  have hb := B.bytes
  have hr := B.returns
  have hts : ∀ w ∈ TB, w.before _ s = true := fun w h => atoms_spec B.pre w (List.mem_cons_of_mem _ h)
  have hown : s.vm.findClass RX8 = some m.cls := findClass_of_methodNamed B.named
  have hlocks := B.notSynchronized
  subst hsz
  have hD := hD0.self (sz := s.heap.size)
  generalize hAe : va_A [(h0, .inr (8, [.ref sp_qreached, .ref g])), (sp_qreached, .inl (cA 1, 128, .inl sp_creached)), (g, .inr (3, [.int g_odds, .int g_pot, .int g_lines, .int g_men, .int g_clauses, .int g_winds, .int g_far0, .int g_far1, .ref g_qsides, .ref g_qgrips, .ref g_qwits, .ref g_qsays, .ref g_qgives0, .ref g_qgives1, .ref g_qfroms, .ref g_qtos])), (g_qsays, .inl (cA 1, 7, .inl g_csays))] s.heap.size = A at hD ⊢
  have hA : ∀ q : Nat, s.heap.size ≤ q → A q := fun q h => by rw [← hAe]; exact Or.inr h
  have hS : va_S A s.heap s.heap [] := va_S.rf
  have hl := lv_entry ([.ref h0, .int p0, .int p1, .int p2]) (n := 5) (Nat.le_of_ble_eq_true rfl)
  rw [lg_entry_eq]
  generalize (lg_sl ([.ref h0, .int p0, .int p1, .int p2]) ++ List.replicate (5 - (lg_sl ([.ref h0, .int p0, .int p1, .int p2])).length) Slot.unset).toArray = ls at hl ⊢
  have hl : lv_has ls 5 [(0, .ref h0), (1, .int p0), (2, .int p1), (3, .int p2)] := hl
  refine lv_aload_n hx hb dX8_fewestFrom_0 rfl (lv_at hl 0 rfl) ?_
  refine va_get (D := D) (ci := 8) (v := .ref sp_qreached) (C := RX8) (T := TX8) (N := 2) hx hb hts inX8 hown hKN.1 hP 0 rfl rfl 0 (by decide) (hts _ tw_404) (fun _ h9 => h9) rfl dX8_fewestFrom_1 ?_
  refine lv_iconst (v := 0) hx hb dX8_fewestFrom_4 (by decide) ?_
  refine lv_iload_n hx hb dX8_fewestFrom_5 rfl (lv_at hl 1 rfl) ?_
  refine va_iast hx hb hKN.1 hP hD hS 1 1 rfl rfl (by unfold vp_in; decide) dX8_fewestFrom_6 (fun H locs hP hD hS => ?_)
  have hP : va_P D vwCl [(h0, .inr (8, [.ref sp_qreached, .ref g])), (sp_qreached, .inl (cA 1, 128, .inl (upd sp_creached 0 p0))), (g, .inr (3, [.int g_odds, .int g_pot, .int g_lines, .int g_men, .int g_clauses, .int g_winds, .int g_far0, .int g_far1, .ref g_qsides, .ref g_qgrips, .ref g_qwits, .ref g_qsays, .ref g_qgives0, .ref g_qgives1, .ref g_qfroms, .ref g_qtos])), (g_qsays, .inl (cA 1, 7, .inl g_csays))] H := hP
  have hD : va_D A [(h0, .inr (8, [.ref sp_qreached, .ref g])), (sp_qreached, .inl (cA 1, 128, .inl (upd sp_creached 0 p0))), (g, .inr (3, [.int g_odds, .int g_pot, .int g_lines, .int g_men, .int g_clauses, .int g_winds, .int g_far0, .int g_far1, .ref g_qsides, .ref g_qgrips, .ref g_qwits, .ref g_qsays, .ref g_qgives0, .ref g_qgives1, .ref g_qfroms, .ref g_qtos])), (g_qsays, .inl (cA 1, 7, .inl g_csays))] := hD
  generalize ef_1 : (upd sp_creached 0 p0) = f_1 at hP hD
  refine lv_iconst (v := 1) hx hb dX8_fewestFrom_7 (by decide) ?_
  refine lv_istore (lv' := [(4, .int 1), (0, .ref h0), (1, .int p0), (2, .int p1), (3, .int p2)]) hx hb dX8_fewestFrom_8 hl (by decide) rfl (fun ls hl => ?_)
  refine loopW (σ := Int32 × (Nat → Int32)) (fun _ => []) (fun ⟨L4_134, F1_134⟩ H locs ls => (1 ≤ L4_134.toInt ∧ L4_134.toInt ≤ 128) ∧ va_P D vwCl [(h0, .inr (8, [.ref sp_qreached, .ref g])), (sp_qreached, .inl (cA 1, 128, .inl F1_134)), (g, .inr (3, [.int g_odds, .int g_pot, .int g_lines, .int g_men, .int g_clauses, .int g_winds, .int g_far0, .int g_far1, .ref g_qsides, .ref g_qgrips, .ref g_qwits, .ref g_qsays, .ref g_qgives0, .ref g_qgives1, .ref g_qfroms, .ref g_qtos])), (g_qsays, .inl (cA 1, 7, .inl g_csays))] H ∧ va_D A [(h0, .inr (8, [.ref sp_qreached, .ref g])), (sp_qreached, .inl (cA 1, 128, .inl F1_134)), (g, .inr (3, [.int g_odds, .int g_pot, .int g_lines, .int g_men, .int g_clauses, .int g_winds, .int g_far0, .int g_far1, .ref g_qsides, .ref g_qgrips, .ref g_qwits, .ref g_qsays, .ref g_qgives0, .ref g_qgives1, .ref g_qfroms, .ref g_qtos])), (g_qsays, .inl (cA 1, 7, .inl g_csays))] ∧ va_S A s.heap H locs ∧ lv_has ls 5 [(4, .int L4_134), (0, .ref h0), (1, .int p0), (2, .int p1), (3, .int p2)]) (fun ⟨L4_134, F1_134⟩ => (2147483647 - L4_134.toInt).toNat) ?_ ((1, f_1) : Int32 × (Nat → Int32)) ⟨(by decide), hP, hD, hS, hl⟩
  intro x_134 H locs ls hI_134 ih_134
  obtain ⟨L4_134, F1_134⟩ := x_134
  obtain ⟨k0_134, hP, hD, hS, hl⟩ := hI_134
  have hP : va_P D vwCl [(h0, .inr (8, [.ref sp_qreached, .ref g])), (sp_qreached, .inl (cA 1, 128, .inl F1_134)), (g, .inr (3, [.int g_odds, .int g_pot, .int g_lines, .int g_men, .int g_clauses, .int g_winds, .int g_far0, .int g_far1, .ref g_qsides, .ref g_qgrips, .ref g_qwits, .ref g_qsays, .ref g_qgives0, .ref g_qgives1, .ref g_qfroms, .ref g_qtos])), (g_qsays, .inl (cA 1, 7, .inl g_csays))] H := hP
  have hD : va_D A [(h0, .inr (8, [.ref sp_qreached, .ref g])), (sp_qreached, .inl (cA 1, 128, .inl F1_134)), (g, .inr (3, [.int g_odds, .int g_pot, .int g_lines, .int g_men, .int g_clauses, .int g_winds, .int g_far0, .int g_far1, .ref g_qsides, .ref g_qgrips, .ref g_qwits, .ref g_qsays, .ref g_qgives0, .ref g_qgives1, .ref g_qfroms, .ref g_qtos])), (g_qsays, .inl (cA 1, 7, .inl g_csays))] := hD
  have hl : lv_has ls 5 [(4, .int L4_134), (0, .ref h0), (1, .int p0), (2, .int p1), (3, .int p2)] := hl
  refine lv_iload hx hb dX8_fewestFrom_10 (lv_at hl 0 rfl) ?_
  refine lv_iload_n hx hb dX8_fewestFrom_12 rfl (lv_at hl 3 rfl) ?_
  refine lv_icmp_gt (tgt := 53) hx hb dX8_fewestFrom_13 (by decide) (fun c_135 => ?_) (fun c_135 => ?_)
  · skip
    have b_137 := i32_bd p1
    have k_136 := kk_lt rfl rfl c_135
    refine lv_iload_n hx hb dX8_fewestFrom_53 rfl (lv_at hl 3 rfl) ?_
    refine lv_if_lt (tgt := 77) hx hb dX8_fewestFrom_54 (by decide) (fun c_138 => ?_) (fun c_138 => ?_)
    · skip
      have k_139 := kk_lt rfl zi_0 c_138
      refine lv_iconst (v := (-1)) hx hb dX8_fewestFrom_77 (by decide) ?_
      have hP9 := hP.sub (ws' := [(h0, .inr (8, [.ref sp_qreached, .ref g])), (sp_qreached, .inl (cA 1, 128, .inl F1_134)), (g, .inr (3, [.int g_odds, .int g_pot, .int g_lines, .int g_men, .int g_clauses, .int g_winds, .int g_far0, .int g_far1, .ref g_qsides, .ref g_qgrips, .ref g_qwits, .ref g_qsays, .ref g_qgives0, .ref g_qgives1, .ref g_qfroms, .ref g_qtos])), (g_qsays, .inl (cA 1, 7, .inl g_csays))]) [0, 1, 2, 3] rfl
      have hD9 := hD.sub (ws' := [(h0, .inr (8, [.ref sp_qreached, .ref g])), (sp_qreached, .inl (cA 1, 128, .inl F1_134)), (g, .inr (3, [.int g_odds, .int g_pot, .int g_lines, .int g_men, .int g_clauses, .int g_winds, .int g_far0, .int g_far1, .ref g_qsides, .ref g_qgrips, .ref g_qwits, .ref g_qsays, .ref g_qgives0, .ref g_qgives1, .ref g_qfroms, .ref g_qtos])), (g_qsays, .inl (cA 1, 7, .inl g_csays))]) [0, 1, 2, 3] (by decide) rfl
      exact W.iret (v := (-1)) hx hb hr (fun t ht hW => ⟨⟨(-1), ((fun _ => 0), (fun _ => 0), (selF [F1_134]), (fun _ _ => 0)), rfl, trivial, by rw [ht]; exact hP9, hD9⟩, hS.F ht⟩) hS.2.2 dX8_fewestFrom_78
    · skip
      have k_140 := kk_nlt rfl zi_0 c_138
      refine lv_iload_n hx hb dX8_fewestFrom_57 rfl (lv_at hl 3 rfl) ?_
      refine lv_sipush (v := 128) hx hb dX8_fewestFrom_58 (by decide) ?_
      refine lv_icmp_ge (tgt := 77) hx hb dX8_fewestFrom_61 (by decide) (fun c_141 => ?_) (fun c_141 => ?_)
      · skip
        have k_142 := kk_le zi_128 rfl c_141
        exfalso; omega
      · skip
        have k_143 := kk_nle zi_128 rfl c_141
        refine lv_aload_n hx hb dX8_fewestFrom_64 rfl (lv_at hl 1 rfl) ?_
        refine va_get (D := D) (ci := 8) (v := .ref sp_qreached) (C := RX8) (T := TX8) (N := 2) hx hb hts inX8 hown hKN.1 hP 0 rfl rfl 0 (by decide) (hts _ tw_404) (fun _ h9 => h9) rfl dX8_fewestFrom_65 ?_
        refine lv_iload_n hx hb dX8_fewestFrom_68 rfl (lv_at hl 3 rfl) ?_
        refine va_iald hx hb hKN.1 hP 1 1 rfl rfl (vp_in_iff.mpr ⟨by omega, by omega⟩) dX8_fewestFrom_69 ?_
        refine lv_topi (fun x_144 ex_144 => ?_)
        refine lv_sipush (v := 1000) hx hb dX8_fewestFrom_70 (by decide) ?_
        refine lv_idiv hx hb dX8_fewestFrom_73 (by decide) ?_
        refine lv_topi (fun x_145 ex_145 => ?_)
        refine lv_goto (tgt := 78) hx hb dX8_fewestFrom_74 (by decide) ?_
        have hP9 := hP.sub (ws' := [(h0, .inr (8, [.ref sp_qreached, .ref g])), (sp_qreached, .inl (cA 1, 128, .inl F1_134)), (g, .inr (3, [.int g_odds, .int g_pot, .int g_lines, .int g_men, .int g_clauses, .int g_winds, .int g_far0, .int g_far1, .ref g_qsides, .ref g_qgrips, .ref g_qwits, .ref g_qsays, .ref g_qgives0, .ref g_qgives1, .ref g_qfroms, .ref g_qtos])), (g_qsays, .inl (cA 1, 7, .inl g_csays))]) [0, 1, 2, 3] rfl
        have hD9 := hD.sub (ws' := [(h0, .inr (8, [.ref sp_qreached, .ref g])), (sp_qreached, .inl (cA 1, 128, .inl F1_134)), (g, .inr (3, [.int g_odds, .int g_pot, .int g_lines, .int g_men, .int g_clauses, .int g_winds, .int g_far0, .int g_far1, .ref g_qsides, .ref g_qgrips, .ref g_qwits, .ref g_qsays, .ref g_qgives0, .ref g_qgives1, .ref g_qfroms, .ref g_qtos])), (g_qsays, .inl (cA 1, 7, .inl g_csays))]) [0, 1, 2, 3] (by decide) rfl
        exact W.iret (v := x_145) hx hb hr (fun t ht hW => ⟨⟨x_145, ((fun _ => 0), (fun _ => 0), (selF [F1_134]), (fun _ _ => 0)), rfl, trivial, by rw [ht]; exact hP9, hD9⟩, hS.F ht⟩) hS.2.2 dX8_fewestFrom_78
  · skip
    have b_148 := i32_bd p1
    have k_147 := kk_nlt rfl rfl c_135
    refine lv_iload hx hb dX8_fewestFrom_16 (lv_at hl 0 rfl) ?_
    refine lv_sipush (v := 128) hx hb dX8_fewestFrom_18 (by decide) ?_
    refine lv_icmp_ge (tgt := 53) hx hb dX8_fewestFrom_21 (by decide) (fun c_149 => ?_) (fun c_149 => ?_)
    · skip
      have k_150 := kk_le zi_128 rfl c_149
      refine lv_iload_n hx hb dX8_fewestFrom_53 rfl (lv_at hl 3 rfl) ?_
      refine lv_if_lt (tgt := 77) hx hb dX8_fewestFrom_54 (by decide) (fun c_151 => ?_) (fun c_151 => ?_)
      · skip
        have k_152 := kk_lt rfl zi_0 c_151
        exfalso; omega
      · skip
        have k_153 := kk_nlt rfl zi_0 c_151
        refine lv_iload_n hx hb dX8_fewestFrom_57 rfl (lv_at hl 3 rfl) ?_
        refine lv_sipush (v := 128) hx hb dX8_fewestFrom_58 (by decide) ?_
        refine lv_icmp_ge (tgt := 77) hx hb dX8_fewestFrom_61 (by decide) (fun c_154 => ?_) (fun c_154 => ?_)
        · skip
          have k_155 := kk_le zi_128 rfl c_154
          refine lv_iconst (v := (-1)) hx hb dX8_fewestFrom_77 (by decide) ?_
          have hP9 := hP.sub (ws' := [(h0, .inr (8, [.ref sp_qreached, .ref g])), (sp_qreached, .inl (cA 1, 128, .inl F1_134)), (g, .inr (3, [.int g_odds, .int g_pot, .int g_lines, .int g_men, .int g_clauses, .int g_winds, .int g_far0, .int g_far1, .ref g_qsides, .ref g_qgrips, .ref g_qwits, .ref g_qsays, .ref g_qgives0, .ref g_qgives1, .ref g_qfroms, .ref g_qtos])), (g_qsays, .inl (cA 1, 7, .inl g_csays))]) [0, 1, 2, 3] rfl
          have hD9 := hD.sub (ws' := [(h0, .inr (8, [.ref sp_qreached, .ref g])), (sp_qreached, .inl (cA 1, 128, .inl F1_134)), (g, .inr (3, [.int g_odds, .int g_pot, .int g_lines, .int g_men, .int g_clauses, .int g_winds, .int g_far0, .int g_far1, .ref g_qsides, .ref g_qgrips, .ref g_qwits, .ref g_qsays, .ref g_qgives0, .ref g_qgives1, .ref g_qfroms, .ref g_qtos])), (g_qsays, .inl (cA 1, 7, .inl g_csays))]) [0, 1, 2, 3] (by decide) rfl
          exact W.iret (v := (-1)) hx hb hr (fun t ht hW => ⟨⟨(-1), ((fun _ => 0), (fun _ => 0), (selF [F1_134]), (fun _ _ => 0)), rfl, trivial, by rw [ht]; exact hP9, hD9⟩, hS.F ht⟩) hS.2.2 dX8_fewestFrom_78
        · skip
          have k_156 := kk_nle zi_128 rfl c_154
          refine lv_aload_n hx hb dX8_fewestFrom_64 rfl (lv_at hl 1 rfl) ?_
          refine va_get (D := D) (ci := 8) (v := .ref sp_qreached) (C := RX8) (T := TX8) (N := 2) hx hb hts inX8 hown hKN.1 hP 0 rfl rfl 0 (by decide) (hts _ tw_404) (fun _ h9 => h9) rfl dX8_fewestFrom_65 ?_
          refine lv_iload_n hx hb dX8_fewestFrom_68 rfl (lv_at hl 3 rfl) ?_
          refine va_iald hx hb hKN.1 hP 1 1 rfl rfl (vp_in_iff.mpr ⟨by omega, by omega⟩) dX8_fewestFrom_69 ?_
          refine lv_topi (fun x_157 ex_157 => ?_)
          refine lv_sipush (v := 1000) hx hb dX8_fewestFrom_70 (by decide) ?_
          refine lv_idiv hx hb dX8_fewestFrom_73 (by decide) ?_
          refine lv_topi (fun x_158 ex_158 => ?_)
          refine lv_goto (tgt := 78) hx hb dX8_fewestFrom_74 (by decide) ?_
          have hP9 := hP.sub (ws' := [(h0, .inr (8, [.ref sp_qreached, .ref g])), (sp_qreached, .inl (cA 1, 128, .inl F1_134)), (g, .inr (3, [.int g_odds, .int g_pot, .int g_lines, .int g_men, .int g_clauses, .int g_winds, .int g_far0, .int g_far1, .ref g_qsides, .ref g_qgrips, .ref g_qwits, .ref g_qsays, .ref g_qgives0, .ref g_qgives1, .ref g_qfroms, .ref g_qtos])), (g_qsays, .inl (cA 1, 7, .inl g_csays))]) [0, 1, 2, 3] rfl
          have hD9 := hD.sub (ws' := [(h0, .inr (8, [.ref sp_qreached, .ref g])), (sp_qreached, .inl (cA 1, 128, .inl F1_134)), (g, .inr (3, [.int g_odds, .int g_pot, .int g_lines, .int g_men, .int g_clauses, .int g_winds, .int g_far0, .int g_far1, .ref g_qsides, .ref g_qgrips, .ref g_qwits, .ref g_qsays, .ref g_qgives0, .ref g_qgives1, .ref g_qfroms, .ref g_qtos])), (g_qsays, .inl (cA 1, 7, .inl g_csays))]) [0, 1, 2, 3] (by decide) rfl
          exact W.iret (v := x_158) hx hb hr (fun t ht hW => ⟨⟨x_158, ((fun _ => 0), (fun _ => 0), (selF [F1_134]), (fun _ _ => 0)), rfl, trivial, by rw [ht]; exact hP9, hD9⟩, hS.F ht⟩) hS.2.2 dX8_fewestFrom_78
    · skip
      have k_160 := kk_nle zi_128 rfl c_149
      refine lv_iload hx hb dX8_fewestFrom_24 (lv_at hl 0 rfl) ?_
      refine lv_iload_n hx hb dX8_fewestFrom_26 rfl (lv_at hl 3 rfl) ?_
      refine lv_iconst (v := (-1)) hx hb dX8_fewestFrom_27 (by decide) ?_
      refine lv_ixor hx hb dX8_fewestFrom_28 ?_
      refine lv_topi (fun x_161 ex_161 => ?_)
      refine lv_iand hx hb dX8_fewestFrom_29 ?_
      refine lv_topi (fun x_163 ex_163 => ?_)
      have k_164 := ar_andL rfl ex_163 (by omega)
      refine lv_if_ne (tgt := 47) hx hb dX8_fewestFrom_30 (by decide) (fun c_165 => ?_) (fun c_165 => ?_)
      · skip
        have k_166 := kk_ne rfl zi_0 c_165
        obtain ⟨x_167, ex_167⟩ : ∃ y : Int32, L4_134 + Int32.ofInt 1 = y := ⟨_, rfl⟩
        have k_168 := ar_add (b := 1) rfl zi_1 ex_167.symm (by omega) (by omega)
        refine lv_iinc (v := x_167) (lv' := [(4, .int x_167), (0, .ref h0), (1, .int p0), (2, .int p1), (3, .int p2)]) hx hb dX8_fewestFrom_47 hl (k := 0) rfl ex_167 (by decide) rfl (fun ls hl => ?_)
        refine lv_goto (tgt := 10) hx hb dX8_fewestFrom_50 (by decide) ?_
        exact ih_134 (x_167, F1_134) _ _ _ ⟨(show 1 ≤ x_167.toInt ∧ x_167.toInt ≤ 128 from by omega), hP.sub [0, 1, 2, 3] rfl, hD.sub [0, 1, 2, 3] (by decide) rfl, hS, lv_sub hl [0, 1, 2, 3, 4] rfl⟩ (by show (2147483647 - x_167.toInt).toNat < (2147483647 - L4_134.toInt).toNat; omega)
      · skip
        have k_169 := kk_eq rfl zi_0 c_165
        refine lv_aload_n hx hb dX8_fewestFrom_33 rfl (lv_at hl 1 rfl) ?_
        refine va_get (D := D) (ci := 8) (v := .ref sp_qreached) (C := RX8) (T := TX8) (N := 2) hx hb hts inX8 hown hKN.1 hP 0 rfl rfl 0 (by decide) (hts _ tw_404) (fun _ h9 => h9) rfl dX8_fewestFrom_34 ?_
        refine lv_iload hx hb dX8_fewestFrom_37 (lv_at hl 0 rfl) ?_
        refine lv_aload_n hx hb dX8_fewestFrom_39 rfl (lv_at hl 1 rfl) ?_
        refine lv_iload hx hb dX8_fewestFrom_40 (lv_at hl 0 rfl) ?_
        refine lv_iload_n hx hb dX8_fewestFrom_42 rfl (lv_at hl 4 rfl) ?_
        refine cpVi (rest := [.int L4_134, .ref sp_qreached]) ⟨hx, hb, hml, hown, hts⟩ hKN (hP.sub (ws' := [(h0, .inr (8, [.ref sp_qreached, .ref g])), (sp_qreached, .inl (cA 1, 128, .inl F1_134)), (g, .inr (3, [.int g_odds, .int g_pot, .int g_lines, .int g_men, .int g_clauses, .int g_winds, .int g_far0, .int g_far1, .ref g_qsides, .ref g_qgrips, .ref g_qwits, .ref g_qsays, .ref g_qgives0, .ref g_qgives1, .ref g_qfroms, .ref g_qtos])), (g_qsays, .inl (cA 1, 7, .inl g_csays))]) [0, 1, 2, 3] rfl) (g_X8_leastReached l D cA h0 sp_qreached g F1_134 g_odds g_pot g_lines g_men g_clauses g_winds g_far0 g_far1 g_qsides g_qgrips g_qwits g_qsays g_qgives0 g_qgives1 g_qfroms g_qtos g_csays L4_134 p2 (by omega) (by omega) (by omega) (by omega) (by omega) (by omega) (by omega) (by omega)) (tb_V tw_1008 tw_1010 tw_20 tw_111 tw_1011) hdX8_leastReached ⟨rfl, rfl, Nat.le_of_ble_eq_true rfl, Nat.le_of_ble_eq_true rfl⟩ ⟨Nat.le_of_ble_eq_true rfl, Nat.le_of_ble_eq_true rfl⟩ rfl rfl rfl hl.1 rfl (Nat.le_of_ble_eq_true rfl) dX8_fewestFrom_43 (fun r_170 hr_170 => ?_)
        refine va_iast hx hb hKN.1 hP hD hS 1 1 rfl rfl (vp_in_iff.mpr ⟨by omega, by omega⟩) dX8_fewestFrom_46 (fun H locs hP hD hS => ?_)
        have hP : va_P D vwCl [(h0, .inr (8, [.ref sp_qreached, .ref g])), (sp_qreached, .inl (cA 1, 128, .inl (upd F1_134 L4_134.toNatClampNeg r_170))), (g, .inr (3, [.int g_odds, .int g_pot, .int g_lines, .int g_men, .int g_clauses, .int g_winds, .int g_far0, .int g_far1, .ref g_qsides, .ref g_qgrips, .ref g_qwits, .ref g_qsays, .ref g_qgives0, .ref g_qgives1, .ref g_qfroms, .ref g_qtos])), (g_qsays, .inl (cA 1, 7, .inl g_csays))] H := hP
        have hD : va_D A [(h0, .inr (8, [.ref sp_qreached, .ref g])), (sp_qreached, .inl (cA 1, 128, .inl (upd F1_134 L4_134.toNatClampNeg r_170))), (g, .inr (3, [.int g_odds, .int g_pot, .int g_lines, .int g_men, .int g_clauses, .int g_winds, .int g_far0, .int g_far1, .ref g_qsides, .ref g_qgrips, .ref g_qwits, .ref g_qsays, .ref g_qgives0, .ref g_qgives1, .ref g_qfroms, .ref g_qtos])), (g_qsays, .inl (cA 1, 7, .inl g_csays))] := hD
        generalize ef_171 : (upd F1_134 L4_134.toNatClampNeg r_170) = f_171 at hP hD
        obtain ⟨x_172, ex_172⟩ : ∃ y : Int32, L4_134 + Int32.ofInt 1 = y := ⟨_, rfl⟩
        have k_173 := ar_add (b := 1) rfl zi_1 ex_172.symm (by omega) (by omega)
        refine lv_iinc (v := x_172) (lv' := [(4, .int x_172), (0, .ref h0), (1, .int p0), (2, .int p1), (3, .int p2)]) hx hb dX8_fewestFrom_47 hl (k := 0) rfl ex_172 (by decide) rfl (fun ls hl => ?_)
        refine lv_goto (tgt := 10) hx hb dX8_fewestFrom_50 (by decide) ?_
        exact ih_134 (x_172, f_171) _ _ _ ⟨(show 1 ≤ x_172.toInt ∧ x_172.toInt ≤ 128 from by omega), hP.sub [0, 1, 2, 3] rfl, hD.sub [0, 1, 2, 3] (by decide) rfl, hS, lv_sub hl [0, 1, 2, 3, 4] rfl⟩ (by show (2147483647 - x_172.toInt).toNat < (2147483647 - L4_134.toInt).toNat; omega)
set_option maxHeartbeats 8000000 in
set_option maxRecDepth 100000 in
theorem g_X8_fewestMeetings (l : Launch) (D : va_G) (cA : Nat → ClassId) (sz : Nat) (h0 : Nat) (sp_qreached : Nat) (g : Nat) (sp_creached : Nat → Int32) (g_odds : Int32) (g_pot : Int32) (g_lines : Int32) (g_men : Int32) (g_clauses : Int32) (g_winds : Int32) (g_far0 : Int32) (g_far1 : Int32) (g_qsides : Nat) (g_qgrips : Nat) (g_qwits : Nat) (g_qsays : Nat) (g_qgives0 : Nat) (g_qgives1 : Nat) (g_qfroms : Nat) (g_qtos : Nat) (g_csays : Nat → Int32) (p0 : Int32) (h_g_odds : -999 ≤ (g_odds : Int32).toInt ∧ (g_odds : Int32).toInt ≤ 999) (h_g_pot : -999 ≤ (g_pot : Int32).toInt ∧ (g_pot : Int32).toInt ≤ 999) (h_g_men : 0 ≤ (g_men : Int32).toInt ∧ (g_men : Int32).toInt ≤ 8) (h_g_clauses : 0 ≤ (g_clauses : Int32).toInt ∧ (g_clauses : Int32).toInt ≤ 7) (h_g_winds : 0 ≤ (g_winds : Int32).toInt ∧ (g_winds : Int32).toInt ≤ 4) (h_g_far0 : -999 ≤ (g_far0 : Int32).toInt ∧ (g_far0 : Int32).toInt ≤ 999) (h_g_far1 : -999 ≤ (g_far1 : Int32).toInt ∧ (g_far1 : Int32).toInt ≤ 999) : Met l yX8_fewestMeetings (Cond.code yX8_fewestMeetings cX8_fewestMeetings 2 (some .int) :: TB) (rmd 4 0 0) (PM D cA sz [(h0, .inr (8, [.ref sp_qreached, .ref g])), (sp_qreached, .inl (cA 1, 128, .inl sp_creached)), (g, .inr (3, [.int g_odds, .int g_pot, .int g_lines, .int g_men, .int g_clauses, .int g_winds, .int g_far0, .int g_far1, .ref g_qsides, .ref g_qgrips, .ref g_qwits, .ref g_qsays, .ref g_qgives0, .ref g_qgives1, .ref g_qfroms, .ref g_qtos])), (g_qsays, .inl (cA 1, 7, .inl g_csays))] [.ref h0, .int p0]) (va_Qi (fun r (u : SU) => True) (fun u t => va_P D vwCl [(h0, .inr (8, [.ref sp_qreached, .ref g])), (sp_qreached, .inl (cA 1, 128, .inl (u.2.2.1 0))), (g, .inr (3, [.int g_odds, .int g_pot, .int g_lines, .int g_men, .int g_clauses, .int g_winds, .int g_far0, .int g_far1, .ref g_qsides, .ref g_qgrips, .ref g_qwits, .ref g_qsays, .ref g_qgives0, .ref g_qgives1, .ref g_qfroms, .ref g_qtos])), (g_qsays, .inl (cA 1, 7, .inl g_csays))] t.heap ∧ va_D (va_A [(h0, .inr (8, [.ref sp_qreached, .ref g])), (sp_qreached, .inl (cA 1, 128, .inl sp_creached)), (g, .inr (3, [.int g_odds, .int g_pot, .int g_lines, .int g_men, .int g_clauses, .int g_winds, .int g_far0, .int g_far1, .ref g_qsides, .ref g_qgrips, .ref g_qwits, .ref g_qsays, .ref g_qgives0, .ref g_qgives1, .ref g_qfroms, .ref g_qtos])), (g_qsays, .inl (cA 1, 7, .inl g_csays))] sz) [(h0, .inr (8, [.ref sp_qreached, .ref g])), (sp_qreached, .inl (cA 1, 128, .inl (u.2.2.1 0))), (g, .inr (3, [.int g_odds, .int g_pot, .int g_lines, .int g_men, .int g_clauses, .int g_winds, .int g_far0, .int g_far1, .ref g_qsides, .ref g_qgrips, .ref g_qwits, .ref g_qsays, .ref g_qgives0, .ref g_qgives1, .ref g_qfroms, .ref g_qtos])), (g_qsays, .inl (cA 1, 7, .inl g_csays))]) (va_A [(h0, .inr (8, [.ref sp_qreached, .ref g])), (sp_qreached, .inl (cA 1, 128, .inl sp_creached)), (g, .inr (3, [.int g_odds, .int g_pot, .int g_lines, .int g_men, .int g_clauses, .int g_winds, .int g_far0, .int g_far1, .ref g_qsides, .ref g_qgrips, .ref g_qwits, .ref g_qsays, .ref g_qgives0, .ref g_qgives1, .ref g_qfroms, .ref g_qtos])), (g_qsays, .inl (cA 1, 7, .inl g_csays))] sz)) 0 0 (va_A [(h0, .inr (8, [.ref sp_qreached, .ref g])), (sp_qreached, .inl (cA 1, 128, .inl sp_creached)), (g, .inr (3, [.int g_odds, .int g_pot, .int g_lines, .int g_men, .int g_clauses, .int g_winds, .int g_far0, .int g_far1, .ref g_qsides, .ref g_qgrips, .ref g_qwits, .ref g_qsays, .ref g_qgives0, .ref g_qgives1, .ref g_qfroms, .ref g_qtos])), (g_qsays, .inl (cA 1, 7, .inl g_csays))] sz) := by
  refine Met.ofW (cc := cX8_fewestMeetings) (maxL := 2) (ret := (some .int)) (by decide) rfl ?_
  intro p e s m args below meth c s₁ B hml hv
  obtain ⟨rfl, hsz, hP, hKN, hD0⟩ := hv
  have hx := B.exec
  have hb := B.bytes
  have hr := B.returns
  have hts : ∀ w ∈ TB, w.before _ s = true := fun w h => atoms_spec B.pre w (List.mem_cons_of_mem _ h)
  have hown : s.vm.findClass RX8 = some m.cls := findClass_of_methodNamed B.named
  have hlocks := B.notSynchronized
  subst hsz
  have hD := hD0.self (sz := s.heap.size)
  generalize hAe : va_A [(h0, .inr (8, [.ref sp_qreached, .ref g])), (sp_qreached, .inl (cA 1, 128, .inl sp_creached)), (g, .inr (3, [.int g_odds, .int g_pot, .int g_lines, .int g_men, .int g_clauses, .int g_winds, .int g_far0, .int g_far1, .ref g_qsides, .ref g_qgrips, .ref g_qwits, .ref g_qsays, .ref g_qgives0, .ref g_qgives1, .ref g_qfroms, .ref g_qtos])), (g_qsays, .inl (cA 1, 7, .inl g_csays))] s.heap.size = A at hD ⊢
  have hA : ∀ q : Nat, s.heap.size ≤ q → A q := fun q h => by rw [← hAe]; exact Or.inr h
  have hS : va_S A s.heap s.heap [] := va_S.rf
  have hl := lv_entry ([.ref h0, .int p0]) (n := 2) (Nat.le_of_ble_eq_true rfl)
  rw [lg_entry_eq]
  generalize (lg_sl ([.ref h0, .int p0]) ++ List.replicate (2 - (lg_sl ([.ref h0, .int p0])).length) Slot.unset).toArray = ls at hl ⊢
  have hl : lv_has ls 2 [(0, .ref h0), (1, .int p0)] := hl
  refine lv_aload_n hx hb dX8_fewestMeetings_0 rfl (lv_at hl 0 rfl) ?_
  refine cpVi (rest := []) ⟨hx, hb, hml, hown, hts⟩ hKN (hP.sub (ws' := [(h0, .inr (8, [.ref sp_qreached, .ref g])), (g, .inr (3, [.int g_odds, .int g_pot, .int g_lines, .int g_men, .int g_clauses, .int g_winds, .int g_far0, .int g_far1, .ref g_qsides, .ref g_qgrips, .ref g_qwits, .ref g_qsays, .ref g_qgives0, .ref g_qgives1, .ref g_qfroms, .ref g_qtos])), (g_qsays, .inl (cA 1, 7, .inl g_csays))]) [0, 2, 3] rfl) (g_X8_longestClause l D cA h0 sp_qreached g g_odds g_pot g_lines g_men g_clauses g_winds g_far0 g_far1 g_qsides g_qgrips g_qwits g_qsays g_qgives0 g_qgives1 g_qfroms g_qtos g_csays (by omega) (by omega) (by omega) (by omega) (by omega) (by omega) (by omega)) (tb_V tw_995 tw_997 tw_18 tw_111 tw_998) hdX8_longestClause ⟨rfl, rfl, Nat.le_of_ble_eq_true rfl, Nat.le_of_ble_eq_true rfl⟩ ⟨Nat.le_of_ble_eq_true rfl, Nat.le_of_ble_eq_true rfl⟩ rfl rfl rfl hl.1 rfl (Nat.le_of_ble_eq_true rfl) dX8_fewestMeetings_1 (fun r_1 hr_1 => ?_)
  refine lv_iload_n hx hb dX8_fewestMeetings_4 rfl (lv_at hl 1 rfl) ?_
  refine lv_icmp_le (tgt := 12) hx hb dX8_fewestMeetings_5 (by decide) (fun c_2 => ?_) (fun c_2 => ?_)
  · skip
    have b_4 := i32_bd p0
    have k_3 := kk_le rfl rfl c_2
    refine lv_aload_n hx hb dX8_fewestMeetings_12 rfl (lv_at hl 0 rfl) ?_
    refine lv_iload_n hx hb dX8_fewestMeetings_13 rfl (lv_at hl 1 rfl) ?_
    refine lv_aload_n hx hb dX8_fewestMeetings_14 rfl (lv_at hl 0 rfl) ?_
    refine va_get (D := D) (ci := 8) (v := .ref g) (C := RX8) (T := TX8) (N := 2) hx hb hts inX8 hown hKN.1 hP 0 rfl rfl 1 (by decide) (hts _ tw_405) (fun _ h9 => h9) rfl dX8_fewestMeetings_15 ?_
    refine cpVi (rest := [.int p0, .ref h0]) ⟨hx, hb, hml, hown, hts⟩ hKN (hP.sub (ws' := [(g, .inr (3, [.int g_odds, .int g_pot, .int g_lines, .int g_men, .int g_clauses, .int g_winds, .int g_far0, .int g_far1, .ref g_qsides, .ref g_qgrips, .ref g_qwits, .ref g_qsays, .ref g_qgives0, .ref g_qgives1, .ref g_qfroms, .ref g_qtos]))]) [2] rfl) (g_X3_allClauses l D cA g g_odds g_pot g_lines g_men g_clauses g_winds g_far0 g_far1 g_qsides g_qgrips g_qwits g_qsays g_qgives0 g_qgives1 g_qfroms g_qtos (by omega) (by omega) (by omega) (by omega) (by omega) (by omega) (by omega)) (tb_V tw_1000 tw_1001 tw_1002 tw_104 tw_1003) hdX3_allClauses ⟨rfl, rfl, Nat.le_of_ble_eq_true rfl, Nat.le_of_ble_eq_true rfl⟩ ⟨Nat.le_of_ble_eq_true rfl, Nat.le_of_ble_eq_true rfl⟩ rfl rfl rfl hl.1 rfl (Nat.le_of_ble_eq_true rfl) dX8_fewestMeetings_18 (fun r_5 hr_5 => ?_)
    refine lv_iload_n hx hb dX8_fewestMeetings_21 rfl (lv_at hl 1 rfl) ?_
    refine cmVi (rest := []) (wsC := [(h0, .inr (8, [.ref sp_qreached, .ref g])), (sp_qreached, .inl (cA 1, 128, .inl sp_creached)), (g, .inr (3, [.int g_odds, .int g_pot, .int g_lines, .int g_men, .int g_clauses, .int g_winds, .int g_far0, .int g_far1, .ref g_qsides, .ref g_qgrips, .ref g_qwits, .ref g_qsays, .ref g_qgives0, .ref g_qgives1, .ref g_qfroms, .ref g_qtos])), (g_qsays, .inl (cA 1, 7, .inl g_csays))]) (wr := []) ⟨hx, hb, hml, hown, hts⟩ hKN hP hD hS hA [0, 1, 2, 3] [] rfl rfl (by decide) (by decide) (by decide) (g_X8_fewestFrom l D cA _ h0 sp_qreached g sp_creached g_odds g_pot g_lines g_men g_clauses g_winds g_far0 g_far1 g_qsides g_qgrips g_qwits g_qsays g_qgives0 g_qgives1 g_qfroms g_qtos g_csays p0 r_5 p0 (by omega) (by omega) (by omega) (by omega) (by omega) (by omega) (by omega)) (tb_V tw_1004 tw_1006 tw_19 tw_111 tw_1007) hdX8_fewestFrom ⟨rfl, rfl, Nat.le_of_ble_eq_true rfl, Nat.le_of_ble_eq_true rfl⟩ ⟨Nat.le_of_ble_eq_true rfl, Nat.le_of_ble_eq_true rfl⟩ rfl rfl rfl hl.1 rfl (Nat.le_of_ble_eq_true rfl) dX8_fewestMeetings_22 (fun r_6 u_6 H locs hr_6 hP hD hS => ?_)
    have hP : va_P D vwCl [(h0, .inr (8, [.ref sp_qreached, .ref g])), (sp_qreached, .inl (cA 1, 128, .inl (u_6.2.2.1 0))), (g, .inr (3, [.int g_odds, .int g_pot, .int g_lines, .int g_men, .int g_clauses, .int g_winds, .int g_far0, .int g_far1, .ref g_qsides, .ref g_qgrips, .ref g_qwits, .ref g_qsays, .ref g_qgives0, .ref g_qgives1, .ref g_qfroms, .ref g_qtos])), (g_qsays, .inl (cA 1, 7, .inl g_csays))] H := hP
    have hD : va_D A [(h0, .inr (8, [.ref sp_qreached, .ref g])), (sp_qreached, .inl (cA 1, 128, .inl (u_6.2.2.1 0))), (g, .inr (3, [.int g_odds, .int g_pot, .int g_lines, .int g_men, .int g_clauses, .int g_winds, .int g_far0, .int g_far1, .ref g_qsides, .ref g_qgrips, .ref g_qwits, .ref g_qsays, .ref g_qgives0, .ref g_qgives1, .ref g_qfroms, .ref g_qtos])), (g_qsays, .inl (cA 1, 7, .inl g_csays))] := hD
    have hP9 := hP.sub (ws' := [(h0, .inr (8, [.ref sp_qreached, .ref g])), (sp_qreached, .inl (cA 1, 128, .inl (u_6.2.2.1 0))), (g, .inr (3, [.int g_odds, .int g_pot, .int g_lines, .int g_men, .int g_clauses, .int g_winds, .int g_far0, .int g_far1, .ref g_qsides, .ref g_qgrips, .ref g_qwits, .ref g_qsays, .ref g_qgives0, .ref g_qgives1, .ref g_qfroms, .ref g_qtos])), (g_qsays, .inl (cA 1, 7, .inl g_csays))]) [0, 1, 2, 3] rfl
    have hD9 := hD.sub (ws' := [(h0, .inr (8, [.ref sp_qreached, .ref g])), (sp_qreached, .inl (cA 1, 128, .inl (u_6.2.2.1 0))), (g, .inr (3, [.int g_odds, .int g_pot, .int g_lines, .int g_men, .int g_clauses, .int g_winds, .int g_far0, .int g_far1, .ref g_qsides, .ref g_qgrips, .ref g_qwits, .ref g_qsays, .ref g_qgives0, .ref g_qgives1, .ref g_qfroms, .ref g_qtos])), (g_qsays, .inl (cA 1, 7, .inl g_csays))]) [0, 1, 2, 3] (by decide) rfl
    exact W.iret (v := r_6) hx hb hr (fun t ht hW => ⟨⟨r_6, ((fun _ => 0), (fun _ => 0), (selF [(u_6.2.2.1 0)]), (fun _ _ => 0)), rfl, trivial, by rw [ht]; exact hP9, hD9⟩, hS.F ht⟩) hS.2.2 dX8_fewestMeetings_25
  · skip
    have b_8 := i32_bd p0
    have k_7 := kk_nle rfl rfl c_2
    refine lv_iconst (v := (-1)) hx hb dX8_fewestMeetings_8 (by decide) ?_
    refine lv_goto (tgt := 25) hx hb dX8_fewestMeetings_9 (by decide) ?_
    have hP9 := hP.sub (ws' := [(h0, .inr (8, [.ref sp_qreached, .ref g])), (sp_qreached, .inl (cA 1, 128, .inl sp_creached)), (g, .inr (3, [.int g_odds, .int g_pot, .int g_lines, .int g_men, .int g_clauses, .int g_winds, .int g_far0, .int g_far1, .ref g_qsides, .ref g_qgrips, .ref g_qwits, .ref g_qsays, .ref g_qgives0, .ref g_qgives1, .ref g_qfroms, .ref g_qtos])), (g_qsays, .inl (cA 1, 7, .inl g_csays))]) [0, 1, 2, 3] rfl
    have hD9 := hD.sub (ws' := [(h0, .inr (8, [.ref sp_qreached, .ref g])), (sp_qreached, .inl (cA 1, 128, .inl sp_creached)), (g, .inr (3, [.int g_odds, .int g_pot, .int g_lines, .int g_men, .int g_clauses, .int g_winds, .int g_far0, .int g_far1, .ref g_qsides, .ref g_qgrips, .ref g_qwits, .ref g_qsays, .ref g_qgives0, .ref g_qgives1, .ref g_qfroms, .ref g_qtos])), (g_qsays, .inl (cA 1, 7, .inl g_csays))]) [0, 1, 2, 3] (by decide) rfl
    exact W.iret (v := (-1)) hx hb hr (fun t ht hW => ⟨⟨(-1), ((fun _ => 0), (fun _ => 0), (selF [sp_creached]), (fun _ _ => 0)), rfl, trivial, by rw [ht]; exact hP9, hD9⟩, hS.F ht⟩) hS.2.2 dX8_fewestMeetings_25
set_option maxHeartbeats 8000000 in
set_option maxRecDepth 100000 in
theorem g_X8_leastNext (l : Launch) (D : va_G) (cA : Nat → ClassId) (sz : Nat) (h0 : Nat) (sp_qreached : Nat) (g : Nat) (sp_creached : Nat → Int32) (g_odds : Int32) (g_pot : Int32) (g_lines : Int32) (g_men : Int32) (g_clauses : Int32) (g_winds : Int32) (g_far0 : Int32) (g_far1 : Int32) (g_qsides : Nat) (g_qgrips : Nat) (g_qwits : Nat) (g_qsays : Nat) (g_qgives0 : Nat) (g_qgives1 : Nat) (g_qfroms : Nat) (g_qtos : Nat) (g_csays : Nat → Int32) (p0 : Int32) (p1 : Int32) (p2 : Int32) (p3 : Int32) (h_g_odds : -999 ≤ (g_odds : Int32).toInt ∧ (g_odds : Int32).toInt ≤ 999) (h_g_pot : -999 ≤ (g_pot : Int32).toInt ∧ (g_pot : Int32).toInt ≤ 999) (h_g_men : 0 ≤ (g_men : Int32).toInt ∧ (g_men : Int32).toInt ≤ 8) (h_g_clauses : 0 ≤ (g_clauses : Int32).toInt ∧ (g_clauses : Int32).toInt ≤ 7) (h_g_winds : 0 ≤ (g_winds : Int32).toInt ∧ (g_winds : Int32).toInt ≤ 4) (h_g_far0 : -999 ≤ (g_far0 : Int32).toInt ∧ (g_far0 : Int32).toInt ≤ 999) (h_g_far1 : -999 ≤ (g_far1 : Int32).toInt ∧ (g_far1 : Int32).toInt ≤ 999) : Met l yX8_leastNext (Cond.code yX8_leastNext cX8_leastNext 6 (some .int) :: TB) (rmd 4 0 0) (PM D cA sz [(h0, .inr (8, [.ref sp_qreached, .ref g])), (sp_qreached, .inl (cA 1, 128, .inl sp_creached)), (g, .inr (3, [.int g_odds, .int g_pot, .int g_lines, .int g_men, .int g_clauses, .int g_winds, .int g_far0, .int g_far1, .ref g_qsides, .ref g_qgrips, .ref g_qwits, .ref g_qsays, .ref g_qgives0, .ref g_qgives1, .ref g_qfroms, .ref g_qtos])), (g_qsays, .inl (cA 1, 7, .inl g_csays))] [.ref h0, .int p0, .int p1, .int p2, .int p3]) (va_Qi (fun r (u : SU) => (-1 ≤ r.toInt ∧ r.toInt ≤ 6)) (fun u t => va_P D vwCl [(h0, .inr (8, [.ref sp_qreached, .ref g])), (sp_qreached, .inl (cA 1, 128, .inl (u.2.2.1 0))), (g, .inr (3, [.int g_odds, .int g_pot, .int g_lines, .int g_men, .int g_clauses, .int g_winds, .int g_far0, .int g_far1, .ref g_qsides, .ref g_qgrips, .ref g_qwits, .ref g_qsays, .ref g_qgives0, .ref g_qgives1, .ref g_qfroms, .ref g_qtos])), (g_qsays, .inl (cA 1, 7, .inl g_csays))] t.heap ∧ va_D (va_A [(h0, .inr (8, [.ref sp_qreached, .ref g])), (sp_qreached, .inl (cA 1, 128, .inl sp_creached)), (g, .inr (3, [.int g_odds, .int g_pot, .int g_lines, .int g_men, .int g_clauses, .int g_winds, .int g_far0, .int g_far1, .ref g_qsides, .ref g_qgrips, .ref g_qwits, .ref g_qsays, .ref g_qgives0, .ref g_qgives1, .ref g_qfroms, .ref g_qtos])), (g_qsays, .inl (cA 1, 7, .inl g_csays))] sz) [(h0, .inr (8, [.ref sp_qreached, .ref g])), (sp_qreached, .inl (cA 1, 128, .inl (u.2.2.1 0))), (g, .inr (3, [.int g_odds, .int g_pot, .int g_lines, .int g_men, .int g_clauses, .int g_winds, .int g_far0, .int g_far1, .ref g_qsides, .ref g_qgrips, .ref g_qwits, .ref g_qsays, .ref g_qgives0, .ref g_qgives1, .ref g_qfroms, .ref g_qtos])), (g_qsays, .inl (cA 1, 7, .inl g_csays))]) (va_A [(h0, .inr (8, [.ref sp_qreached, .ref g])), (sp_qreached, .inl (cA 1, 128, .inl sp_creached)), (g, .inr (3, [.int g_odds, .int g_pot, .int g_lines, .int g_men, .int g_clauses, .int g_winds, .int g_far0, .int g_far1, .ref g_qsides, .ref g_qgrips, .ref g_qwits, .ref g_qsays, .ref g_qgives0, .ref g_qgives1, .ref g_qfroms, .ref g_qtos])), (g_qsays, .inl (cA 1, 7, .inl g_csays))] sz)) 0 0 (va_A [(h0, .inr (8, [.ref sp_qreached, .ref g])), (sp_qreached, .inl (cA 1, 128, .inl sp_creached)), (g, .inr (3, [.int g_odds, .int g_pot, .int g_lines, .int g_men, .int g_clauses, .int g_winds, .int g_far0, .int g_far1, .ref g_qsides, .ref g_qgrips, .ref g_qwits, .ref g_qsays, .ref g_qgives0, .ref g_qgives1, .ref g_qfroms, .ref g_qtos])), (g_qsays, .inl (cA 1, 7, .inl g_csays))] sz) := by
  refine Met.ofW (cc := cX8_leastNext) (maxL := 6) (ret := (some .int)) (by decide) rfl ?_
  intro p e s m args below meth c s₁ B hml hv
  obtain ⟨rfl, hsz, hP, hKN, hD0⟩ := hv
  have hx := B.exec
  have hb := B.bytes
  have hr := B.returns
  have hts : ∀ w ∈ TB, w.before _ s = true := fun w h => atoms_spec B.pre w (List.mem_cons_of_mem _ h)
  have hown : s.vm.findClass RX8 = some m.cls := findClass_of_methodNamed B.named
  have hlocks := B.notSynchronized
  subst hsz
  have hD := hD0.self (sz := s.heap.size)
  generalize hAe : va_A [(h0, .inr (8, [.ref sp_qreached, .ref g])), (sp_qreached, .inl (cA 1, 128, .inl sp_creached)), (g, .inr (3, [.int g_odds, .int g_pot, .int g_lines, .int g_men, .int g_clauses, .int g_winds, .int g_far0, .int g_far1, .ref g_qsides, .ref g_qgrips, .ref g_qwits, .ref g_qsays, .ref g_qgives0, .ref g_qgives1, .ref g_qfroms, .ref g_qtos])), (g_qsays, .inl (cA 1, 7, .inl g_csays))] s.heap.size = A at hD ⊢
  have hA : ∀ q : Nat, s.heap.size ≤ q → A q := fun q h => by rw [← hAe]; exact Or.inr h
  have hS : va_S A s.heap s.heap [] := va_S.rf
  have hl := lv_entry ([.ref h0, .int p0, .int p1, .int p2, .int p3]) (n := 6) (Nat.le_of_ble_eq_true rfl)
  rw [lg_entry_eq]
  generalize (lg_sl ([.ref h0, .int p0, .int p1, .int p2, .int p3]) ++ List.replicate (6 - (lg_sl ([.ref h0, .int p0, .int p1, .int p2, .int p3])).length) Slot.unset).toArray = ls at hl ⊢
  have hl : lv_has ls 6 [(0, .ref h0), (1, .int p0), (2, .int p1), (3, .int p2), (4, .int p3)] := hl
  refine lv_iconst (v := 0) hx hb dX8_leastNext_0 (by decide) ?_
  refine lv_istore (lv' := [(5, .int 0), (0, .ref h0), (1, .int p0), (2, .int p1), (3, .int p2), (4, .int p3)]) hx hb dX8_leastNext_1 hl (by decide) rfl (fun ls hl => ?_)
  refine loopW (σ := Int32 × (Nat → Int32)) (fun _ => []) (fun ⟨L5_199, F1_199⟩ H locs ls => (0 ≤ L5_199.toInt ∧ L5_199.toInt ≤ 7) ∧ va_P D vwCl [(h0, .inr (8, [.ref sp_qreached, .ref g])), (sp_qreached, .inl (cA 1, 128, .inl F1_199)), (g, .inr (3, [.int g_odds, .int g_pot, .int g_lines, .int g_men, .int g_clauses, .int g_winds, .int g_far0, .int g_far1, .ref g_qsides, .ref g_qgrips, .ref g_qwits, .ref g_qsays, .ref g_qgives0, .ref g_qgives1, .ref g_qfroms, .ref g_qtos])), (g_qsays, .inl (cA 1, 7, .inl g_csays))] H ∧ va_D A [(h0, .inr (8, [.ref sp_qreached, .ref g])), (sp_qreached, .inl (cA 1, 128, .inl F1_199)), (g, .inr (3, [.int g_odds, .int g_pot, .int g_lines, .int g_men, .int g_clauses, .int g_winds, .int g_far0, .int g_far1, .ref g_qsides, .ref g_qgrips, .ref g_qwits, .ref g_qsays, .ref g_qgives0, .ref g_qgives1, .ref g_qfroms, .ref g_qtos])), (g_qsays, .inl (cA 1, 7, .inl g_csays))] ∧ va_S A s.heap H locs ∧ lv_has ls 6 [(5, .int L5_199), (0, .ref h0), (1, .int p0), (2, .int p1), (3, .int p2), (4, .int p3)]) (fun ⟨L5_199, F1_199⟩ => (2147483647 - L5_199.toInt).toNat) ?_ ((0, sp_creached) : Int32 × (Nat → Int32)) ⟨(by decide), hP, hD, hS, hl⟩
  intro x_199 H locs ls hI_199 ih_199
  obtain ⟨L5_199, F1_199⟩ := x_199
  obtain ⟨k0_199, hP, hD, hS, hl⟩ := hI_199
  have hP : va_P D vwCl [(h0, .inr (8, [.ref sp_qreached, .ref g])), (sp_qreached, .inl (cA 1, 128, .inl F1_199)), (g, .inr (3, [.int g_odds, .int g_pot, .int g_lines, .int g_men, .int g_clauses, .int g_winds, .int g_far0, .int g_far1, .ref g_qsides, .ref g_qgrips, .ref g_qwits, .ref g_qsays, .ref g_qgives0, .ref g_qgives1, .ref g_qfroms, .ref g_qtos])), (g_qsays, .inl (cA 1, 7, .inl g_csays))] H := hP
  have hD : va_D A [(h0, .inr (8, [.ref sp_qreached, .ref g])), (sp_qreached, .inl (cA 1, 128, .inl F1_199)), (g, .inr (3, [.int g_odds, .int g_pot, .int g_lines, .int g_men, .int g_clauses, .int g_winds, .int g_far0, .int g_far1, .ref g_qsides, .ref g_qgrips, .ref g_qwits, .ref g_qsays, .ref g_qgives0, .ref g_qgives1, .ref g_qfroms, .ref g_qtos])), (g_qsays, .inl (cA 1, 7, .inl g_csays))] := hD
  have hl : lv_has ls 6 [(5, .int L5_199), (0, .ref h0), (1, .int p0), (2, .int p1), (3, .int p2), (4, .int p3)] := hl
  refine lv_iload hx hb dX8_leastNext_3 (lv_at hl 0 rfl) ?_
  refine lv_aload_n hx hb dX8_leastNext_5 rfl (lv_at hl 1 rfl) ?_
  refine va_get (D := D) (ci := 8) (v := .ref g) (C := RX8) (T := TX8) (N := 2) hx hb hts inX8 hown hKN.1 hP 0 rfl rfl 1 (by decide) (hts _ tw_405) (fun _ h9 => h9) rfl dX8_leastNext_6 ?_
  refine va_get (D := D) (ci := 3) (v := .int g_clauses) (C := RX3) (T := TX3) (N := 16) hx hb hts inX3 hown hKN.1 hP 2 rfl rfl 4 (by decide) (hts _ tw_173) (fun _ h9 => h9) rfl dX8_leastNext_9 ?_
  refine lv_icmp_ge (tgt := 64) hx hb dX8_leastNext_12 (by decide) (fun c_200 => ?_) (fun c_200 => ?_)
  · skip
    have k_201 := kk_le rfl rfl c_200
    refine lv_iconst (v := (-1)) hx hb dX8_leastNext_64 (by decide) ?_
    have hP9 := hP.sub (ws' := [(h0, .inr (8, [.ref sp_qreached, .ref g])), (sp_qreached, .inl (cA 1, 128, .inl F1_199)), (g, .inr (3, [.int g_odds, .int g_pot, .int g_lines, .int g_men, .int g_clauses, .int g_winds, .int g_far0, .int g_far1, .ref g_qsides, .ref g_qgrips, .ref g_qwits, .ref g_qsays, .ref g_qgives0, .ref g_qgives1, .ref g_qfroms, .ref g_qtos])), (g_qsays, .inl (cA 1, 7, .inl g_csays))]) [0, 1, 2, 3] rfl
    have hD9 := hD.sub (ws' := [(h0, .inr (8, [.ref sp_qreached, .ref g])), (sp_qreached, .inl (cA 1, 128, .inl F1_199)), (g, .inr (3, [.int g_odds, .int g_pot, .int g_lines, .int g_men, .int g_clauses, .int g_winds, .int g_far0, .int g_far1, .ref g_qsides, .ref g_qgrips, .ref g_qwits, .ref g_qsays, .ref g_qgives0, .ref g_qgives1, .ref g_qfroms, .ref g_qtos])), (g_qsays, .inl (cA 1, 7, .inl g_csays))]) [0, 1, 2, 3] (by decide) rfl
    exact W.iret (v := (-1)) hx hb hr (fun t ht hW => ⟨⟨(-1), ((fun _ => 0), (fun _ => 0), (selF [F1_199]), (fun _ _ => 0)), rfl, (show -1 ≤ ((-1) : Int32).toInt ∧ ((-1) : Int32).toInt ≤ 6 from by decide), by rw [ht]; exact hP9, hD9⟩, hS.F ht⟩) hS.2.2 dX8_leastNext_65
  · skip
    have k_202 := kk_nle rfl rfl c_200
    refine lv_iload_n hx hb dX8_leastNext_15 rfl (lv_at hl 3 rfl) ?_
    refine lv_iload hx hb dX8_leastNext_16 (lv_at hl 0 rfl) ?_
    refine lv_ishr hx hb dX8_leastNext_18 ?_
    refine lv_topi (fun x_203 ex_203 => ?_)
    refine lv_iconst (v := 1) hx hb dX8_leastNext_19 (by decide) ?_
    refine lv_iand hx hb dX8_leastNext_20 ?_
    refine lv_topi (fun x_205 ex_205 => ?_)
    have k_206 := ar_andR zi_1 ex_205 (by omega)
    refine lv_iconst (v := 1) hx hb dX8_leastNext_21 (by decide) ?_
    refine lv_icmp_ne (tgt := 58) hx hb dX8_leastNext_22 (by decide) (fun c_207 => ?_) (fun c_207 => ?_)
    · skip
      have k_208 := kk_ne rfl zi_1 c_207
      obtain ⟨x_209, ex_209⟩ : ∃ y : Int32, L5_199 + Int32.ofInt 1 = y := ⟨_, rfl⟩
      have k_210 := ar_add (b := 1) rfl zi_1 ex_209.symm (by omega) (by omega)
      refine lv_iinc (v := x_209) (lv' := [(5, .int x_209), (0, .ref h0), (1, .int p0), (2, .int p1), (3, .int p2), (4, .int p3)]) hx hb dX8_leastNext_58 hl (k := 0) rfl ex_209 (by decide) rfl (fun ls hl => ?_)
      refine lv_goto (tgt := 3) hx hb dX8_leastNext_61 (by decide) ?_
      exact ih_199 (x_209, F1_199) _ _ _ ⟨(show 0 ≤ x_209.toInt ∧ x_209.toInt ≤ 7 from by omega), hP.sub [0, 1, 2, 3] rfl, hD.sub [0, 1, 2, 3] (by decide) rfl, hS, lv_sub hl [0, 1, 2, 3, 4, 5] rfl⟩ (by show (2147483647 - x_209.toInt).toNat < (2147483647 - L5_199.toInt).toNat; omega)
    · skip
      have k_211 := kk_eq rfl zi_1 c_207
      refine lv_aload_n hx hb dX8_leastNext_25 rfl (lv_at hl 1 rfl) ?_
      refine lv_iload_n hx hb dX8_leastNext_26 rfl (lv_at hl 2 rfl) ?_
      refine lv_aload_n hx hb dX8_leastNext_27 rfl (lv_at hl 1 rfl) ?_
      refine lv_iload hx hb dX8_leastNext_28 (lv_at hl 0 rfl) ?_
      obtain ⟨x_212, ex_212⟩ : ∃ y, L5_199.toInt64 = y := ⟨_, rfl⟩
      refine lv_i2l (v := x_212) hx hb dX8_leastNext_30 ex_212 ?_
      have k_213 := tt_i2l ex_212
      refine cpVi (rest := [.int p0, .ref h0]) ⟨hx, hb, hml, hown, hts⟩ hKN (hP.sub (ws' := [(h0, .inr (8, [.ref sp_qreached, .ref g])), (g, .inr (3, [.int g_odds, .int g_pot, .int g_lines, .int g_men, .int g_clauses, .int g_winds, .int g_far0, .int g_far1, .ref g_qsides, .ref g_qgrips, .ref g_qwits, .ref g_qsays, .ref g_qgives0, .ref g_qgives1, .ref g_qfroms, .ref g_qtos])), (g_qsays, .inl (cA 1, 7, .inl g_csays))]) [0, 2, 3] rfl) (g_X8_lengthOf l D cA h0 sp_qreached g g_odds g_pot g_lines g_men g_clauses g_winds g_far0 g_far1 g_qsides g_qgrips g_qwits g_qsays g_qgives0 g_qgives1 g_qfroms g_qtos g_csays x_212 (by omega) (by omega) (by omega) (by omega) (by omega) (by omega) (by omega)) (tb_V tw_970 tw_972 tw_17 tw_111 tw_973) hdX8_lengthOf ⟨rfl, rfl, Nat.le_of_ble_eq_true rfl, Nat.le_of_ble_eq_true rfl⟩ ⟨Nat.le_of_ble_eq_true rfl, Nat.le_of_ble_eq_true rfl⟩ rfl rfl rfl hl.1 rfl (Nat.le_of_ble_eq_true rfl) dX8_leastNext_31 (fun r_214 hr_214 => ?_)
      refine lv_iload_n hx hb dX8_leastNext_34 rfl (lv_at hl 4 rfl) ?_
      refine cpSi (rest := [.ref h0]) ⟨hx, hb, hml, hown, hts⟩ hKN (hP.sub (ws' := []) [] rfl) (g_X8_said l D cA p0 r_214 p2) (tb_S tw_976 tw_977 tw_111 tw_978) hdX8_said ⟨rfl, rfl, Nat.le_of_ble_eq_true rfl, Nat.le_of_ble_eq_true rfl⟩ ⟨Nat.le_of_ble_eq_true rfl, Nat.le_of_ble_eq_true rfl⟩ rfl hl.1 rfl (Nat.le_of_ble_eq_true rfl) dX8_leastNext_35 (fun r_215 hr_215 => ?_)
      refine lv_iload_n hx hb dX8_leastNext_38 rfl (lv_at hl 3 rfl) ?_
      refine lv_iconst (v := 1) hx hb dX8_leastNext_39 (by decide) ?_
      refine lv_iload hx hb dX8_leastNext_40 (lv_at hl 0 rfl) ?_
      refine lv_ishl hx hb dX8_leastNext_42 ?_
      refine lv_topi (fun x_216 ex_216 => ?_)
      have k_217 := ar_shl1 ex_216 (by omega) (by omega)
      refine lv_iconst (v := (-1)) hx hb dX8_leastNext_43 (by decide) ?_
      refine lv_ixor hx hb dX8_leastNext_44 ?_
      refine lv_topi (fun x_218 ex_218 => ?_)
      refine lv_iand hx hb dX8_leastNext_45 ?_
      refine lv_topi (fun x_220 ex_220 => ?_)
      refine lv_iload_n hx hb dX8_leastNext_46 rfl (lv_at hl 4 rfl) ?_
      refine cmVi (rest := []) (wsC := [(h0, .inr (8, [.ref sp_qreached, .ref g])), (sp_qreached, .inl (cA 1, 128, .inl F1_199)), (g, .inr (3, [.int g_odds, .int g_pot, .int g_lines, .int g_men, .int g_clauses, .int g_winds, .int g_far0, .int g_far1, .ref g_qsides, .ref g_qgrips, .ref g_qwits, .ref g_qsays, .ref g_qgives0, .ref g_qgives1, .ref g_qfroms, .ref g_qtos])), (g_qsays, .inl (cA 1, 7, .inl g_csays))]) (wr := []) ⟨hx, hb, hml, hown, hts⟩ hKN hP hD hS hA [0, 1, 2, 3] [] rfl rfl (by decide) (by decide) (by decide) (g_X8_fewestFrom l D cA _ h0 sp_qreached g F1_199 g_odds g_pot g_lines g_men g_clauses g_winds g_far0 g_far1 g_qsides g_qgrips g_qwits g_qsays g_qgives0 g_qgives1 g_qfroms g_qtos g_csays r_215 x_220 p2 (by omega) (by omega) (by omega) (by omega) (by omega) (by omega) (by omega)) (tb_V tw_1004 tw_1006 tw_19 tw_111 tw_1007) hdX8_fewestFrom ⟨rfl, rfl, Nat.le_of_ble_eq_true rfl, Nat.le_of_ble_eq_true rfl⟩ ⟨Nat.le_of_ble_eq_true rfl, Nat.le_of_ble_eq_true rfl⟩ rfl rfl rfl hl.1 rfl (Nat.le_of_ble_eq_true rfl) dX8_leastNext_47 (fun r_222 u_222 H locs hr_222 hP hD hS => ?_)
      have hP : va_P D vwCl [(h0, .inr (8, [.ref sp_qreached, .ref g])), (sp_qreached, .inl (cA 1, 128, .inl (u_222.2.2.1 0))), (g, .inr (3, [.int g_odds, .int g_pot, .int g_lines, .int g_men, .int g_clauses, .int g_winds, .int g_far0, .int g_far1, .ref g_qsides, .ref g_qgrips, .ref g_qwits, .ref g_qsays, .ref g_qgives0, .ref g_qgives1, .ref g_qfroms, .ref g_qtos])), (g_qsays, .inl (cA 1, 7, .inl g_csays))] H := hP
      have hD : va_D A [(h0, .inr (8, [.ref sp_qreached, .ref g])), (sp_qreached, .inl (cA 1, 128, .inl (u_222.2.2.1 0))), (g, .inr (3, [.int g_odds, .int g_pot, .int g_lines, .int g_men, .int g_clauses, .int g_winds, .int g_far0, .int g_far1, .ref g_qsides, .ref g_qgrips, .ref g_qwits, .ref g_qsays, .ref g_qgives0, .ref g_qgives1, .ref g_qfroms, .ref g_qtos])), (g_qsays, .inl (cA 1, 7, .inl g_csays))] := hD
      refine lv_iload hx hb dX8_leastNext_50 (lv_at hl 5 rfl) ?_
      refine lv_icmp_gt (tgt := 58) hx hb dX8_leastNext_52 (by decide) (fun c_223 => ?_) (fun c_223 => ?_)
      · skip
        have b_225 := i32_bd p3
        have b_226 := i32_bd r_222
        have k_224 := kk_lt rfl rfl c_223
        obtain ⟨x_227, ex_227⟩ : ∃ y : Int32, L5_199 + Int32.ofInt 1 = y := ⟨_, rfl⟩
        have k_228 := ar_add (b := 1) rfl zi_1 ex_227.symm (by omega) (by omega)
        refine lv_iinc (v := x_227) (lv' := [(5, .int x_227), (0, .ref h0), (1, .int p0), (2, .int p1), (3, .int p2), (4, .int p3)]) hx hb dX8_leastNext_58 hl (k := 0) rfl ex_227 (by decide) rfl (fun ls hl => ?_)
        refine lv_goto (tgt := 3) hx hb dX8_leastNext_61 (by decide) ?_
        exact ih_199 (x_227, (u_222.2.2.1 0)) _ _ _ ⟨(show 0 ≤ x_227.toInt ∧ x_227.toInt ≤ 7 from by omega), hP.sub [0, 1, 2, 3] rfl, hD.sub [0, 1, 2, 3] (by decide) rfl, hS, lv_sub hl [0, 1, 2, 3, 4, 5] rfl⟩ (by show (2147483647 - x_227.toInt).toNat < (2147483647 - L5_199.toInt).toNat; omega)
      · skip
        have b_230 := i32_bd p3
        have b_231 := i32_bd r_222
        have k_229 := kk_nlt rfl rfl c_223
        refine lv_iload hx hb dX8_leastNext_55 (lv_at hl 0 rfl) ?_
        have hP9 := hP.sub (ws' := [(h0, .inr (8, [.ref sp_qreached, .ref g])), (sp_qreached, .inl (cA 1, 128, .inl (u_222.2.2.1 0))), (g, .inr (3, [.int g_odds, .int g_pot, .int g_lines, .int g_men, .int g_clauses, .int g_winds, .int g_far0, .int g_far1, .ref g_qsides, .ref g_qgrips, .ref g_qwits, .ref g_qsays, .ref g_qgives0, .ref g_qgives1, .ref g_qfroms, .ref g_qtos])), (g_qsays, .inl (cA 1, 7, .inl g_csays))]) [0, 1, 2, 3] rfl
        have hD9 := hD.sub (ws' := [(h0, .inr (8, [.ref sp_qreached, .ref g])), (sp_qreached, .inl (cA 1, 128, .inl (u_222.2.2.1 0))), (g, .inr (3, [.int g_odds, .int g_pot, .int g_lines, .int g_men, .int g_clauses, .int g_winds, .int g_far0, .int g_far1, .ref g_qsides, .ref g_qgrips, .ref g_qwits, .ref g_qsays, .ref g_qgives0, .ref g_qgives1, .ref g_qfroms, .ref g_qtos])), (g_qsays, .inl (cA 1, 7, .inl g_csays))]) [0, 1, 2, 3] (by decide) rfl
        exact W.iret (v := L5_199) hx hb hr (fun t ht hW => ⟨⟨L5_199, ((fun _ => 0), (fun _ => 0), (selF [(u_222.2.2.1 0)]), (fun _ _ => 0)), rfl, (show -1 ≤ L5_199.toInt ∧ L5_199.toInt ≤ 6 from by omega), by rw [ht]; exact hP9, hD9⟩, hS.F ht⟩) hS.2.2 dX8_leastNext_57
set_option maxHeartbeats 8000000 in
set_option maxRecDepth 100000 in
theorem g_X8_clauseInOrder (l : Launch) (D : va_G) (cA : Nat → ClassId) (sz : Nat) (h0 : Nat) (sp_qreached : Nat) (g : Nat) (sp_creached : Nat → Int32) (g_odds : Int32) (g_pot : Int32) (g_lines : Int32) (g_men : Int32) (g_clauses : Int32) (g_winds : Int32) (g_far0 : Int32) (g_far1 : Int32) (g_qsides : Nat) (g_qgrips : Nat) (g_qwits : Nat) (g_qsays : Nat) (g_qgives0 : Nat) (g_qgives1 : Nat) (g_qfroms : Nat) (g_qtos : Nat) (g_csays : Nat → Int32) (p0 : Int32) (p1 : Int32) (h_g_odds : -999 ≤ (g_odds : Int32).toInt ∧ (g_odds : Int32).toInt ≤ 999) (h_g_pot : -999 ≤ (g_pot : Int32).toInt ∧ (g_pot : Int32).toInt ≤ 999) (h_g_men : 0 ≤ (g_men : Int32).toInt ∧ (g_men : Int32).toInt ≤ 8) (h_g_clauses : 0 ≤ (g_clauses : Int32).toInt ∧ (g_clauses : Int32).toInt ≤ 7) (h_g_winds : 0 ≤ (g_winds : Int32).toInt ∧ (g_winds : Int32).toInt ≤ 4) (h_g_far0 : -999 ≤ (g_far0 : Int32).toInt ∧ (g_far0 : Int32).toInt ≤ 999) (h_g_far1 : -999 ≤ (g_far1 : Int32).toInt ∧ (g_far1 : Int32).toInt ≤ 999) : Met l yX8_clauseInOrder (Cond.code yX8_clauseInOrder cX8_clauseInOrder 8 (some .int) :: TB) (rmd 5 0 0) (PM D cA sz [(h0, .inr (8, [.ref sp_qreached, .ref g])), (sp_qreached, .inl (cA 1, 128, .inl sp_creached)), (g, .inr (3, [.int g_odds, .int g_pot, .int g_lines, .int g_men, .int g_clauses, .int g_winds, .int g_far0, .int g_far1, .ref g_qsides, .ref g_qgrips, .ref g_qwits, .ref g_qsays, .ref g_qgives0, .ref g_qgives1, .ref g_qfroms, .ref g_qtos])), (g_qsays, .inl (cA 1, 7, .inl g_csays))] [.ref h0, .int p0, .int p1]) (va_Qi (fun r (u : SU) => (-1 ≤ r.toInt ∧ r.toInt ≤ 6)) (fun u t => va_P D vwCl [(h0, .inr (8, [.ref sp_qreached, .ref g])), (sp_qreached, .inl (cA 1, 128, .inl (u.2.2.1 0))), (g, .inr (3, [.int g_odds, .int g_pot, .int g_lines, .int g_men, .int g_clauses, .int g_winds, .int g_far0, .int g_far1, .ref g_qsides, .ref g_qgrips, .ref g_qwits, .ref g_qsays, .ref g_qgives0, .ref g_qgives1, .ref g_qfroms, .ref g_qtos])), (g_qsays, .inl (cA 1, 7, .inl g_csays))] t.heap ∧ va_D (va_A [(h0, .inr (8, [.ref sp_qreached, .ref g])), (sp_qreached, .inl (cA 1, 128, .inl sp_creached)), (g, .inr (3, [.int g_odds, .int g_pot, .int g_lines, .int g_men, .int g_clauses, .int g_winds, .int g_far0, .int g_far1, .ref g_qsides, .ref g_qgrips, .ref g_qwits, .ref g_qsays, .ref g_qgives0, .ref g_qgives1, .ref g_qfroms, .ref g_qtos])), (g_qsays, .inl (cA 1, 7, .inl g_csays))] sz) [(h0, .inr (8, [.ref sp_qreached, .ref g])), (sp_qreached, .inl (cA 1, 128, .inl (u.2.2.1 0))), (g, .inr (3, [.int g_odds, .int g_pot, .int g_lines, .int g_men, .int g_clauses, .int g_winds, .int g_far0, .int g_far1, .ref g_qsides, .ref g_qgrips, .ref g_qwits, .ref g_qsays, .ref g_qgives0, .ref g_qgives1, .ref g_qfroms, .ref g_qtos])), (g_qsays, .inl (cA 1, 7, .inl g_csays))]) (va_A [(h0, .inr (8, [.ref sp_qreached, .ref g])), (sp_qreached, .inl (cA 1, 128, .inl sp_creached)), (g, .inr (3, [.int g_odds, .int g_pot, .int g_lines, .int g_men, .int g_clauses, .int g_winds, .int g_far0, .int g_far1, .ref g_qsides, .ref g_qgrips, .ref g_qwits, .ref g_qsays, .ref g_qgives0, .ref g_qgives1, .ref g_qfroms, .ref g_qtos])), (g_qsays, .inl (cA 1, 7, .inl g_csays))] sz)) 0 0 (va_A [(h0, .inr (8, [.ref sp_qreached, .ref g])), (sp_qreached, .inl (cA 1, 128, .inl sp_creached)), (g, .inr (3, [.int g_odds, .int g_pot, .int g_lines, .int g_men, .int g_clauses, .int g_winds, .int g_far0, .int g_far1, .ref g_qsides, .ref g_qgrips, .ref g_qwits, .ref g_qsays, .ref g_qgives0, .ref g_qgives1, .ref g_qfroms, .ref g_qtos])), (g_qsays, .inl (cA 1, 7, .inl g_csays))] sz) := by
  refine Met.ofW (cc := cX8_clauseInOrder) (maxL := 8) (ret := (some .int)) (by decide) rfl ?_
  intro p e s m args below meth c s₁ B hml hv
  obtain ⟨rfl, hsz, hP, hKN, hD0⟩ := hv
  have hx := B.exec
  have hb := B.bytes
  have hr := B.returns
  have hts : ∀ w ∈ TB, w.before _ s = true := fun w h => atoms_spec B.pre w (List.mem_cons_of_mem _ h)
  have hown : s.vm.findClass RX8 = some m.cls := findClass_of_methodNamed B.named
  have hlocks := B.notSynchronized
  subst hsz
  have hD := hD0.self (sz := s.heap.size)
  generalize hAe : va_A [(h0, .inr (8, [.ref sp_qreached, .ref g])), (sp_qreached, .inl (cA 1, 128, .inl sp_creached)), (g, .inr (3, [.int g_odds, .int g_pot, .int g_lines, .int g_men, .int g_clauses, .int g_winds, .int g_far0, .int g_far1, .ref g_qsides, .ref g_qgrips, .ref g_qwits, .ref g_qsays, .ref g_qgives0, .ref g_qgives1, .ref g_qfroms, .ref g_qtos])), (g_qsays, .inl (cA 1, 7, .inl g_csays))] s.heap.size = A at hD ⊢
  have hA : ∀ q : Nat, s.heap.size ≤ q → A q := fun q h => by rw [← hAe]; exact Or.inr h
  have hS : va_S A s.heap s.heap [] := va_S.rf
  have hl := lv_entry ([.ref h0, .int p0, .int p1]) (n := 8) (Nat.le_of_ble_eq_true rfl)
  rw [lg_entry_eq]
  generalize (lg_sl ([.ref h0, .int p0, .int p1]) ++ List.replicate (8 - (lg_sl ([.ref h0, .int p0, .int p1])).length) Slot.unset).toArray = ls at hl ⊢
  have hl : lv_has ls 8 [(0, .ref h0), (1, .int p0), (2, .int p1)] := hl
  refine lv_aload_n hx hb dX8_clauseInOrder_0 rfl (lv_at hl 0 rfl) ?_
  refine lv_iload_n hx hb dX8_clauseInOrder_1 rfl (lv_at hl 1 rfl) ?_
  refine cmVi (rest := []) (wsC := [(h0, .inr (8, [.ref sp_qreached, .ref g])), (sp_qreached, .inl (cA 1, 128, .inl sp_creached)), (g, .inr (3, [.int g_odds, .int g_pot, .int g_lines, .int g_men, .int g_clauses, .int g_winds, .int g_far0, .int g_far1, .ref g_qsides, .ref g_qgrips, .ref g_qwits, .ref g_qsays, .ref g_qgives0, .ref g_qgives1, .ref g_qfroms, .ref g_qtos])), (g_qsays, .inl (cA 1, 7, .inl g_csays))]) (wr := []) ⟨hx, hb, hml, hown, hts⟩ hKN hP hD hS hA [0, 1, 2, 3] [] rfl rfl (by decide) (by decide) (by decide) (g_X8_fewestMeetings l D cA _ h0 sp_qreached g sp_creached g_odds g_pot g_lines g_men g_clauses g_winds g_far0 g_far1 g_qsides g_qgrips g_qwits g_qsays g_qgives0 g_qgives1 g_qfroms g_qtos g_csays p0 (by omega) (by omega) (by omega) (by omega) (by omega) (by omega) (by omega)) (tb_V tw_1021 tw_992 tw_993 tw_111 tw_994) hdX8_fewestMeetings ⟨rfl, rfl, Nat.le_of_ble_eq_true rfl, Nat.le_of_ble_eq_true rfl⟩ ⟨Nat.le_of_ble_eq_true rfl, Nat.le_of_ble_eq_true rfl⟩ rfl rfl rfl hl.1 rfl (Nat.le_of_ble_eq_true rfl) dX8_clauseInOrder_2 (fun r_1 u_1 H locs hr_1 hP hD hS => ?_)
  have hP : va_P D vwCl [(h0, .inr (8, [.ref sp_qreached, .ref g])), (sp_qreached, .inl (cA 1, 128, .inl (u_1.2.2.1 0))), (g, .inr (3, [.int g_odds, .int g_pot, .int g_lines, .int g_men, .int g_clauses, .int g_winds, .int g_far0, .int g_far1, .ref g_qsides, .ref g_qgrips, .ref g_qwits, .ref g_qsays, .ref g_qgives0, .ref g_qgives1, .ref g_qfroms, .ref g_qtos])), (g_qsays, .inl (cA 1, 7, .inl g_csays))] H := hP
  have hD : va_D A [(h0, .inr (8, [.ref sp_qreached, .ref g])), (sp_qreached, .inl (cA 1, 128, .inl (u_1.2.2.1 0))), (g, .inr (3, [.int g_odds, .int g_pot, .int g_lines, .int g_men, .int g_clauses, .int g_winds, .int g_far0, .int g_far1, .ref g_qsides, .ref g_qgrips, .ref g_qwits, .ref g_qsays, .ref g_qgives0, .ref g_qgives1, .ref g_qfroms, .ref g_qtos])), (g_qsays, .inl (cA 1, 7, .inl g_csays))] := hD
  refine lv_istore_n (lv' := [(3, .int r_1), (0, .ref h0), (1, .int p0), (2, .int p1)]) hx hb dX8_clauseInOrder_5 rfl hl (by decide) rfl (fun ls hl => ?_)
  refine lv_iload_n hx hb dX8_clauseInOrder_6 rfl (lv_at hl 0 rfl) ?_
  refine lv_iconst (v := (-1)) hx hb dX8_clauseInOrder_7 (by decide) ?_
  refine lv_icmp_eq (tgt := 22) hx hb dX8_clauseInOrder_8 (by decide) (fun c_2 => ?_) (fun c_2 => ?_)
  · skip
    have b_4 := i32_bd r_1
    have k_3 := kk_eq rfl zi_m1 c_2
    refine lv_iconst (v := (-1)) hx hb dX8_clauseInOrder_22 (by decide) ?_
    have hP9 := hP.sub (ws' := [(h0, .inr (8, [.ref sp_qreached, .ref g])), (sp_qreached, .inl (cA 1, 128, .inl (u_1.2.2.1 0))), (g, .inr (3, [.int g_odds, .int g_pot, .int g_lines, .int g_men, .int g_clauses, .int g_winds, .int g_far0, .int g_far1, .ref g_qsides, .ref g_qgrips, .ref g_qwits, .ref g_qsays, .ref g_qgives0, .ref g_qgives1, .ref g_qfroms, .ref g_qtos])), (g_qsays, .inl (cA 1, 7, .inl g_csays))]) [0, 1, 2, 3] rfl
    have hD9 := hD.sub (ws' := [(h0, .inr (8, [.ref sp_qreached, .ref g])), (sp_qreached, .inl (cA 1, 128, .inl (u_1.2.2.1 0))), (g, .inr (3, [.int g_odds, .int g_pot, .int g_lines, .int g_men, .int g_clauses, .int g_winds, .int g_far0, .int g_far1, .ref g_qsides, .ref g_qgrips, .ref g_qwits, .ref g_qsays, .ref g_qgives0, .ref g_qgives1, .ref g_qfroms, .ref g_qtos])), (g_qsays, .inl (cA 1, 7, .inl g_csays))]) [0, 1, 2, 3] (by decide) rfl
    exact W.iret (v := (-1)) hx hb hr (fun t ht hW => ⟨⟨(-1), ((fun _ => 0), (fun _ => 0), (selF [(u_1.2.2.1 0)]), (fun _ _ => 0)), rfl, (show -1 ≤ ((-1) : Int32).toInt ∧ ((-1) : Int32).toInt ≤ 6 from by decide), by rw [ht]; exact hP9, hD9⟩, hS.F ht⟩) hS.2.2 dX8_clauseInOrder_23
  · skip
    have b_6 := i32_bd r_1
    have k_5 := kk_ne rfl zi_m1 c_2
    refine lv_aload_n hx hb dX8_clauseInOrder_11 rfl (lv_at hl 1 rfl) ?_
    refine va_get (D := D) (ci := 8) (v := .ref g) (C := RX8) (T := TX8) (N := 2) hx hb hts inX8 hown hKN.1 hP 0 rfl rfl 1 (by decide) (hts _ tw_405) (fun _ h9 => h9) rfl dX8_clauseInOrder_12 ?_
    refine lv_iload_n hx hb dX8_clauseInOrder_15 rfl (lv_at hl 3 rfl) ?_
    refine cpVi (rest := []) ⟨hx, hb, hml, hown, hts⟩ hKN (hP.sub (ws' := [(g, .inr (3, [.int g_odds, .int g_pot, .int g_lines, .int g_men, .int g_clauses, .int g_winds, .int g_far0, .int g_far1, .ref g_qsides, .ref g_qgrips, .ref g_qwits, .ref g_qsays, .ref g_qgives0, .ref g_qgives1, .ref g_qfroms, .ref g_qtos]))]) [2] rfl) (g_X3_hasClause l D cA g g_odds g_pot g_lines g_men g_clauses g_winds g_far0 g_far1 g_qsides g_qgrips g_qwits g_qsays g_qgives0 g_qgives1 g_qfroms g_qtos p1 (by omega) (by omega) (by omega) (by omega) (by omega) (by omega) (by omega)) (tb_V tw_1022 tw_720 tw_721 tw_104 tw_722) hdX3_hasClause ⟨rfl, rfl, Nat.le_of_ble_eq_true rfl, Nat.le_of_ble_eq_true rfl⟩ ⟨Nat.le_of_ble_eq_true rfl, Nat.le_of_ble_eq_true rfl⟩ rfl rfl rfl hl.1 rfl (Nat.le_of_ble_eq_true rfl) dX8_clauseInOrder_16 (fun r_7 hr_7 => ?_)
    rcases hr_7 with ⟨k_7_0_0, k_7_0_1, k_7_0_2, rfl⟩ | rfl
    · skip
      refine lv_if_ne (tgt := 24) hx hb dX8_clauseInOrder_19 (by decide) (fun c_8 => ?_) (fun c_8 => absurd c_8 (by decide))
      refine lv_iload_n hx hb dX8_clauseInOrder_24 rfl (lv_at hl 2 rfl) ?_
      refine lv_istore (lv' := [(4, .int p0), (3, .int r_1), (0, .ref h0), (1, .int p0), (2, .int p1)]) hx hb dX8_clauseInOrder_25 hl (by decide) rfl (fun ls hl => ?_)
      refine lv_aload_n hx hb dX8_clauseInOrder_27 rfl (lv_at hl 2 rfl) ?_
      refine va_get (D := D) (ci := 8) (v := .ref g) (C := RX8) (T := TX8) (N := 2) hx hb hts inX8 hown hKN.1 hP 0 rfl rfl 1 (by decide) (hts _ tw_405) (fun _ h9 => h9) rfl dX8_clauseInOrder_28 ?_
      refine cpVi (rest := []) ⟨hx, hb, hml, hown, hts⟩ hKN (hP.sub (ws' := [(g, .inr (3, [.int g_odds, .int g_pot, .int g_lines, .int g_men, .int g_clauses, .int g_winds, .int g_far0, .int g_far1, .ref g_qsides, .ref g_qgrips, .ref g_qwits, .ref g_qsays, .ref g_qgives0, .ref g_qgives1, .ref g_qfroms, .ref g_qtos]))]) [2] rfl) (g_X3_allClauses l D cA g g_odds g_pot g_lines g_men g_clauses g_winds g_far0 g_far1 g_qsides g_qgrips g_qwits g_qsays g_qgives0 g_qgives1 g_qfroms g_qtos (by omega) (by omega) (by omega) (by omega) (by omega) (by omega) (by omega)) (tb_V tw_1000 tw_1001 tw_1002 tw_104 tw_1003) hdX3_allClauses ⟨rfl, rfl, Nat.le_of_ble_eq_true rfl, Nat.le_of_ble_eq_true rfl⟩ ⟨Nat.le_of_ble_eq_true rfl, Nat.le_of_ble_eq_true rfl⟩ rfl rfl rfl hl.1 rfl (Nat.le_of_ble_eq_true rfl) dX8_clauseInOrder_31 (fun r_9 hr_9 => ?_)
      refine lv_istore (lv' := [(5, .int r_9), (4, .int p0), (3, .int r_1), (0, .ref h0), (1, .int p0), (2, .int p1)]) hx hb dX8_clauseInOrder_34 hl (by decide) rfl (fun ls hl => ?_)
      refine lv_iconst (v := (-1)) hx hb dX8_clauseInOrder_36 (by decide) ?_
      refine lv_istore (lv' := [(6, .int (-1)), (5, .int r_9), (4, .int p0), (3, .int r_1), (0, .ref h0), (1, .int p0), (2, .int p1)]) hx hb dX8_clauseInOrder_37 hl (by decide) rfl (fun ls hl => ?_)
      refine lv_iconst (v := 0) hx hb dX8_clauseInOrder_39 (by decide) ?_
      refine lv_istore (lv' := [(7, .int 0), (6, .int (-1)), (5, .int r_9), (4, .int p0), (3, .int r_1), (0, .ref h0), (1, .int p0), (2, .int p1)]) hx hb dX8_clauseInOrder_40 hl (by decide) rfl (fun ls hl => ?_)
      have b_131 := i32_bd p0
      refine loopW (σ := Int32 × Int32 × Int32 × Int32 × (Nat → Int32)) (fun _ => []) (fun ⟨L7_130, L6_130, L5_130, L4_130, F4_130⟩ H locs ls => (0 ≤ L7_130.toInt ∧ L7_130.toInt ≤ 7) ∧ (-1 ≤ L6_130.toInt ∧ L6_130.toInt ≤ 6) ∧ (0 ≤ L5_130.toInt ∧ L5_130.toInt ≤ 127) ∧ va_P D vwCl [(h0, .inr (8, [.ref sp_qreached, .ref g])), (sp_qreached, .inl (cA 1, 128, .inl F4_130)), (g, .inr (3, [.int g_odds, .int g_pot, .int g_lines, .int g_men, .int g_clauses, .int g_winds, .int g_far0, .int g_far1, .ref g_qsides, .ref g_qgrips, .ref g_qwits, .ref g_qsays, .ref g_qgives0, .ref g_qgives1, .ref g_qfroms, .ref g_qtos])), (g_qsays, .inl (cA 1, 7, .inl g_csays))] H ∧ va_D A [(h0, .inr (8, [.ref sp_qreached, .ref g])), (sp_qreached, .inl (cA 1, 128, .inl F4_130)), (g, .inr (3, [.int g_odds, .int g_pot, .int g_lines, .int g_men, .int g_clauses, .int g_winds, .int g_far0, .int g_far1, .ref g_qsides, .ref g_qgrips, .ref g_qwits, .ref g_qsays, .ref g_qgives0, .ref g_qgives1, .ref g_qfroms, .ref g_qtos])), (g_qsays, .inl (cA 1, 7, .inl g_csays))] ∧ va_S A s.heap H locs ∧ lv_has ls 8 [(7, .int L7_130), (6, .int L6_130), (5, .int L5_130), (4, .int L4_130), (3, .int r_1), (0, .ref h0), (1, .int p0), (2, .int p1)]) (fun ⟨L7_130, L6_130, L5_130, L4_130, F4_130⟩ => (2147483647 - L7_130.toInt).toNat) ?_ ((0, (-1), r_9, p0, (u_1.2.2.1 0)) : Int32 × Int32 × Int32 × Int32 × (Nat → Int32)) ⟨(by decide), (by decide), (show 0 ≤ r_9.toInt ∧ r_9.toInt ≤ 127 from by omega), hP, hD, hS, hl⟩
      intro x_130 H locs ls hI_130 ih_130
      obtain ⟨L7_130, L6_130, L5_130, L4_130, F4_130⟩ := x_130
      obtain ⟨k0_130, k1_130, k2_130, hP, hD, hS, hl⟩ := hI_130
      have hP : va_P D vwCl [(h0, .inr (8, [.ref sp_qreached, .ref g])), (sp_qreached, .inl (cA 1, 128, .inl F4_130)), (g, .inr (3, [.int g_odds, .int g_pot, .int g_lines, .int g_men, .int g_clauses, .int g_winds, .int g_far0, .int g_far1, .ref g_qsides, .ref g_qgrips, .ref g_qwits, .ref g_qsays, .ref g_qgives0, .ref g_qgives1, .ref g_qfroms, .ref g_qtos])), (g_qsays, .inl (cA 1, 7, .inl g_csays))] H := hP
      have hD : va_D A [(h0, .inr (8, [.ref sp_qreached, .ref g])), (sp_qreached, .inl (cA 1, 128, .inl F4_130)), (g, .inr (3, [.int g_odds, .int g_pot, .int g_lines, .int g_men, .int g_clauses, .int g_winds, .int g_far0, .int g_far1, .ref g_qsides, .ref g_qgrips, .ref g_qwits, .ref g_qsays, .ref g_qgives0, .ref g_qgives1, .ref g_qfroms, .ref g_qtos])), (g_qsays, .inl (cA 1, 7, .inl g_csays))] := hD
      have hl : lv_has ls 8 [(7, .int L7_130), (6, .int L6_130), (5, .int L5_130), (4, .int L4_130), (3, .int r_1), (0, .ref h0), (1, .int p0), (2, .int p1)] := hl
      refine lv_iload hx hb dX8_clauseInOrder_42 (lv_at hl 0 rfl) ?_
      refine lv_iload_n hx hb dX8_clauseInOrder_44 rfl (lv_at hl 7 rfl) ?_
      refine lv_icmp_gt (tgt := 100) hx hb dX8_clauseInOrder_45 (by decide) (fun c_132 => ?_) (fun c_132 => ?_)
      · skip
        have k_133 := kk_lt rfl rfl c_132
        refine lv_iload hx hb dX8_clauseInOrder_100 (lv_at hl 1 rfl) ?_
        have hP9 := hP.sub (ws' := [(h0, .inr (8, [.ref sp_qreached, .ref g])), (sp_qreached, .inl (cA 1, 128, .inl F4_130)), (g, .inr (3, [.int g_odds, .int g_pot, .int g_lines, .int g_men, .int g_clauses, .int g_winds, .int g_far0, .int g_far1, .ref g_qsides, .ref g_qgrips, .ref g_qwits, .ref g_qsays, .ref g_qgives0, .ref g_qgives1, .ref g_qfroms, .ref g_qtos])), (g_qsays, .inl (cA 1, 7, .inl g_csays))]) [0, 1, 2, 3] rfl
        have hD9 := hD.sub (ws' := [(h0, .inr (8, [.ref sp_qreached, .ref g])), (sp_qreached, .inl (cA 1, 128, .inl F4_130)), (g, .inr (3, [.int g_odds, .int g_pot, .int g_lines, .int g_men, .int g_clauses, .int g_winds, .int g_far0, .int g_far1, .ref g_qsides, .ref g_qgrips, .ref g_qwits, .ref g_qsays, .ref g_qgives0, .ref g_qgives1, .ref g_qfroms, .ref g_qtos])), (g_qsays, .inl (cA 1, 7, .inl g_csays))]) [0, 1, 2, 3] (by decide) rfl
        exact W.iret (v := L6_130) hx hb hr (fun t ht hW => ⟨⟨L6_130, ((fun _ => 0), (fun _ => 0), (selF [F4_130]), (fun _ _ => 0)), rfl, (show -1 ≤ L6_130.toInt ∧ L6_130.toInt ≤ 6 from by omega), by rw [ht]; exact hP9, hD9⟩, hS.F ht⟩) hS.2.2 dX8_clauseInOrder_102
      · skip
        have k_134 := kk_nlt rfl rfl c_132
        refine lv_aload_n hx hb dX8_clauseInOrder_48 rfl (lv_at hl 5 rfl) ?_
        refine lv_iload hx hb dX8_clauseInOrder_49 (lv_at hl 3 rfl) ?_
        refine lv_iload hx hb dX8_clauseInOrder_51 (lv_at hl 2 rfl) ?_
        refine lv_iload_n hx hb dX8_clauseInOrder_53 rfl (lv_at hl 6 rfl) ?_
        refine lv_iload_n hx hb dX8_clauseInOrder_54 rfl (lv_at hl 4 rfl) ?_
        refine cmVi (rest := []) (wsC := [(h0, .inr (8, [.ref sp_qreached, .ref g])), (sp_qreached, .inl (cA 1, 128, .inl F4_130)), (g, .inr (3, [.int g_odds, .int g_pot, .int g_lines, .int g_men, .int g_clauses, .int g_winds, .int g_far0, .int g_far1, .ref g_qsides, .ref g_qgrips, .ref g_qwits, .ref g_qsays, .ref g_qgives0, .ref g_qgives1, .ref g_qfroms, .ref g_qtos])), (g_qsays, .inl (cA 1, 7, .inl g_csays))]) (wr := []) ⟨hx, hb, hml, hown, hts⟩ hKN hP hD hS hA [0, 1, 2, 3] [] rfl rfl (by decide) (by decide) (by decide) (g_X8_leastNext l D cA _ h0 sp_qreached g F4_130 g_odds g_pot g_lines g_men g_clauses g_winds g_far0 g_far1 g_qsides g_qgrips g_qwits g_qsays g_qgives0 g_qgives1 g_qfroms g_qtos g_csays L4_130 L5_130 p0 r_1 (by omega) (by omega) (by omega) (by omega) (by omega) (by omega) (by omega)) (tb_V tw_1023 tw_1025 tw_21 tw_111 tw_1026) hdX8_leastNext ⟨rfl, rfl, Nat.le_of_ble_eq_true rfl, Nat.le_of_ble_eq_true rfl⟩ ⟨Nat.le_of_ble_eq_true rfl, Nat.le_of_ble_eq_true rfl⟩ rfl rfl rfl hl.1 rfl (Nat.le_of_ble_eq_true rfl) dX8_clauseInOrder_55 (fun r_135 u_135 H locs hr_135 hP hD hS => ?_)
        have hP : va_P D vwCl [(h0, .inr (8, [.ref sp_qreached, .ref g])), (sp_qreached, .inl (cA 1, 128, .inl (u_135.2.2.1 0))), (g, .inr (3, [.int g_odds, .int g_pot, .int g_lines, .int g_men, .int g_clauses, .int g_winds, .int g_far0, .int g_far1, .ref g_qsides, .ref g_qgrips, .ref g_qwits, .ref g_qsays, .ref g_qgives0, .ref g_qgives1, .ref g_qfroms, .ref g_qtos])), (g_qsays, .inl (cA 1, 7, .inl g_csays))] H := hP
        have hD : va_D A [(h0, .inr (8, [.ref sp_qreached, .ref g])), (sp_qreached, .inl (cA 1, 128, .inl (u_135.2.2.1 0))), (g, .inr (3, [.int g_odds, .int g_pot, .int g_lines, .int g_men, .int g_clauses, .int g_winds, .int g_far0, .int g_far1, .ref g_qsides, .ref g_qgrips, .ref g_qwits, .ref g_qsays, .ref g_qgives0, .ref g_qgives1, .ref g_qfroms, .ref g_qtos])), (g_qsays, .inl (cA 1, 7, .inl g_csays))] := hD
        have hr_135_r := hr_135
        refine lv_istore (lv' := [(6, .int r_135), (7, .int L7_130), (5, .int L5_130), (4, .int L4_130), (3, .int r_1), (0, .ref h0), (1, .int p0), (2, .int p1)]) hx hb dX8_clauseInOrder_58 hl (by decide) rfl (fun ls hl => ?_)
        refine lv_iload hx hb dX8_clauseInOrder_60 (lv_at hl 0 rfl) ?_
        refine lv_iconst (v := (-1)) hx hb dX8_clauseInOrder_62 (by decide) ?_
        refine lv_icmp_ne (tgt := 68) hx hb dX8_clauseInOrder_63 (by decide) (fun c_136 => ?_) (fun c_136 => ?_)
        · skip
          have k_137 := kk_ne rfl zi_m1 c_136
          refine lv_iload hx hb dX8_clauseInOrder_68 (lv_at hl 3 rfl) ?_
          refine lv_aload_n hx hb dX8_clauseInOrder_70 rfl (lv_at hl 5 rfl) ?_
          refine lv_iload hx hb dX8_clauseInOrder_71 (lv_at hl 0 rfl) ?_
          obtain ⟨x_138, ex_138⟩ : ∃ y, r_135.toInt64 = y := ⟨_, rfl⟩
          refine lv_i2l (v := x_138) hx hb dX8_clauseInOrder_73 ex_138 ?_
          have k_139 := tt_i2l ex_138
          refine cpVi (rest := [.int L4_130]) ⟨hx, hb, hml, hown, hts⟩ hKN (hP.sub (ws' := [(h0, .inr (8, [.ref sp_qreached, .ref g])), (g, .inr (3, [.int g_odds, .int g_pot, .int g_lines, .int g_men, .int g_clauses, .int g_winds, .int g_far0, .int g_far1, .ref g_qsides, .ref g_qgrips, .ref g_qwits, .ref g_qsays, .ref g_qgives0, .ref g_qgives1, .ref g_qfroms, .ref g_qtos])), (g_qsays, .inl (cA 1, 7, .inl g_csays))]) [0, 2, 3] rfl) (g_X8_lengthOf l D cA h0 sp_qreached g g_odds g_pot g_lines g_men g_clauses g_winds g_far0 g_far1 g_qsides g_qgrips g_qwits g_qsays g_qgives0 g_qgives1 g_qfroms g_qtos g_csays x_138 (by omega) (by omega) (by omega) (by omega) (by omega) (by omega) (by omega)) (tb_V tw_970 tw_972 tw_17 tw_111 tw_973) hdX8_lengthOf ⟨rfl, rfl, Nat.le_of_ble_eq_true rfl, Nat.le_of_ble_eq_true rfl⟩ ⟨Nat.le_of_ble_eq_true rfl, Nat.le_of_ble_eq_true rfl⟩ rfl rfl rfl hl.1 rfl (Nat.le_of_ble_eq_true rfl) dX8_clauseInOrder_74 (fun r_140 hr_140 => ?_)
          refine lv_iload_n hx hb dX8_clauseInOrder_77 rfl (lv_at hl 6 rfl) ?_
          refine cpSi (rest := []) ⟨hx, hb, hml, hown, hts⟩ hKN (hP.sub (ws' := []) [] rfl) (g_X8_said l D cA L4_130 r_140 p0) (tb_S tw_976 tw_977 tw_111 tw_978) hdX8_said ⟨rfl, rfl, Nat.le_of_ble_eq_true rfl, Nat.le_of_ble_eq_true rfl⟩ ⟨Nat.le_of_ble_eq_true rfl, Nat.le_of_ble_eq_true rfl⟩ rfl hl.1 rfl (Nat.le_of_ble_eq_true rfl) dX8_clauseInOrder_78 (fun r_141 hr_141 => ?_)
          refine lv_istore (lv' := [(4, .int r_141), (6, .int r_135), (7, .int L7_130), (5, .int L5_130), (3, .int r_1), (0, .ref h0), (1, .int p0), (2, .int p1)]) hx hb dX8_clauseInOrder_81 hl (by decide) rfl (fun ls hl => ?_)
          refine lv_iload hx hb dX8_clauseInOrder_83 (lv_at hl 3 rfl) ?_
          refine lv_iconst (v := 1) hx hb dX8_clauseInOrder_85 (by decide) ?_
          refine lv_iload hx hb dX8_clauseInOrder_86 (lv_at hl 1 rfl) ?_
          refine lv_ishl hx hb dX8_clauseInOrder_88 ?_
          refine lv_topi (fun x_142 ex_142 => ?_)
          have k_143 := ar_shl1 ex_142 (by omega) (by omega)
          refine lv_iconst (v := (-1)) hx hb dX8_clauseInOrder_89 (by decide) ?_
          refine lv_ixor hx hb dX8_clauseInOrder_90 ?_
          refine lv_topi (fun x_144 ex_144 => ?_)
          refine lv_iand hx hb dX8_clauseInOrder_91 ?_
          refine lv_topi (fun x_146 ex_146 => ?_)
          have k_147 := ar_andL rfl ex_146 (by omega)
          refine lv_istore (lv' := [(5, .int x_146), (4, .int r_141), (6, .int r_135), (7, .int L7_130), (3, .int r_1), (0, .ref h0), (1, .int p0), (2, .int p1)]) hx hb dX8_clauseInOrder_92 hl (by decide) rfl (fun ls hl => ?_)
          obtain ⟨x_148, ex_148⟩ : ∃ y : Int32, L7_130 + Int32.ofInt 1 = y := ⟨_, rfl⟩
          have k_149 := ar_add (b := 1) rfl zi_1 ex_148.symm (by omega) (by omega)
          refine lv_iinc (v := x_148) (lv' := [(7, .int x_148), (5, .int x_146), (4, .int r_141), (6, .int r_135), (3, .int r_1), (0, .ref h0), (1, .int p0), (2, .int p1)]) hx hb dX8_clauseInOrder_94 hl (k := 3) rfl ex_148 (by decide) rfl (fun ls hl => ?_)
          refine lv_goto (tgt := 42) hx hb dX8_clauseInOrder_97 (by decide) ?_
          exact ih_130 (x_148, r_135, x_146, r_141, (u_135.2.2.1 0)) _ _ _ ⟨(show 0 ≤ x_148.toInt ∧ x_148.toInt ≤ 7 from by omega), (show -1 ≤ r_135.toInt ∧ r_135.toInt ≤ 6 from by omega), (show 0 ≤ x_146.toInt ∧ x_146.toInt ≤ 127 from by omega), hP.sub [0, 1, 2, 3] rfl, hD.sub [0, 1, 2, 3] (by decide) rfl, hS, lv_sub hl [0, 3, 1, 2, 4, 5, 6, 7] rfl⟩ (by show (2147483647 - x_148.toInt).toNat < (2147483647 - L7_130.toInt).toNat; omega)
        · skip
          have k_150 := kk_eq rfl zi_m1 c_136
          refine lv_iconst (v := (-1)) hx hb dX8_clauseInOrder_66 (by decide) ?_
          have hP9 := hP.sub (ws' := [(h0, .inr (8, [.ref sp_qreached, .ref g])), (sp_qreached, .inl (cA 1, 128, .inl (u_135.2.2.1 0))), (g, .inr (3, [.int g_odds, .int g_pot, .int g_lines, .int g_men, .int g_clauses, .int g_winds, .int g_far0, .int g_far1, .ref g_qsides, .ref g_qgrips, .ref g_qwits, .ref g_qsays, .ref g_qgives0, .ref g_qgives1, .ref g_qfroms, .ref g_qtos])), (g_qsays, .inl (cA 1, 7, .inl g_csays))]) [0, 1, 2, 3] rfl
          have hD9 := hD.sub (ws' := [(h0, .inr (8, [.ref sp_qreached, .ref g])), (sp_qreached, .inl (cA 1, 128, .inl (u_135.2.2.1 0))), (g, .inr (3, [.int g_odds, .int g_pot, .int g_lines, .int g_men, .int g_clauses, .int g_winds, .int g_far0, .int g_far1, .ref g_qsides, .ref g_qgrips, .ref g_qwits, .ref g_qsays, .ref g_qgives0, .ref g_qgives1, .ref g_qfroms, .ref g_qtos])), (g_qsays, .inl (cA 1, 7, .inl g_csays))]) [0, 1, 2, 3] (by decide) rfl
          exact W.iret (v := (-1)) hx hb hr (fun t ht hW => ⟨⟨(-1), ((fun _ => 0), (fun _ => 0), (selF [(u_135.2.2.1 0)]), (fun _ _ => 0)), rfl, (show -1 ≤ ((-1) : Int32).toInt ∧ ((-1) : Int32).toInt ≤ 6 from by decide), by rw [ht]; exact hP9, hD9⟩, hS.F ht⟩) hS.2.2 dX8_clauseInOrder_67
    · skip
      refine lv_if_ne (tgt := 24) hx hb dX8_clauseInOrder_19 (by decide) (fun c_151 => absurd (by decide) c_151) (fun c_151 => ?_)
      refine lv_iconst (v := (-1)) hx hb dX8_clauseInOrder_22 (by decide) ?_
      have hP9 := hP.sub (ws' := [(h0, .inr (8, [.ref sp_qreached, .ref g])), (sp_qreached, .inl (cA 1, 128, .inl (u_1.2.2.1 0))), (g, .inr (3, [.int g_odds, .int g_pot, .int g_lines, .int g_men, .int g_clauses, .int g_winds, .int g_far0, .int g_far1, .ref g_qsides, .ref g_qgrips, .ref g_qwits, .ref g_qsays, .ref g_qgives0, .ref g_qgives1, .ref g_qfroms, .ref g_qtos])), (g_qsays, .inl (cA 1, 7, .inl g_csays))]) [0, 1, 2, 3] rfl
      have hD9 := hD.sub (ws' := [(h0, .inr (8, [.ref sp_qreached, .ref g])), (sp_qreached, .inl (cA 1, 128, .inl (u_1.2.2.1 0))), (g, .inr (3, [.int g_odds, .int g_pot, .int g_lines, .int g_men, .int g_clauses, .int g_winds, .int g_far0, .int g_far1, .ref g_qsides, .ref g_qgrips, .ref g_qwits, .ref g_qsays, .ref g_qgives0, .ref g_qgives1, .ref g_qfroms, .ref g_qtos])), (g_qsays, .inl (cA 1, 7, .inl g_csays))]) [0, 1, 2, 3] (by decide) rfl
      exact W.iret (v := (-1)) hx hb hr (fun t ht hW => ⟨⟨(-1), ((fun _ => 0), (fun _ => 0), (selF [(u_1.2.2.1 0)]), (fun _ _ => 0)), rfl, (show -1 ≤ ((-1) : Int32).toInt ∧ ((-1) : Int32).toInt ≤ 6 from by decide), by rw [ht]; exact hP9, hD9⟩, hS.F ht⟩) hS.2.2 dX8_clauseInOrder_23
set_option maxHeartbeats 8000000 in
set_option maxRecDepth 100000 in
theorem g_X8_leastHold (l : Launch) (D : va_G) (cA : Nat → ClassId) (sz : Nat) (h0 : Nat) (sp_qreached : Nat) (g : Nat) (sp_creached : Nat → Int32) (g_odds : Int32) (g_pot : Int32) (g_lines : Int32) (g_men : Int32) (g_clauses : Int32) (g_winds : Int32) (g_far0 : Int32) (g_far1 : Int32) (g_qsides : Nat) (g_qgrips : Nat) (g_qwits : Nat) (g_qsays : Nat) (g_qgives0 : Nat) (g_qgives1 : Nat) (g_qfroms : Nat) (g_qtos : Nat) (g_csays : Nat → Int32) (p0 : Int32) (h_g_odds : -999 ≤ (g_odds : Int32).toInt ∧ (g_odds : Int32).toInt ≤ 999) (h_g_pot : -999 ≤ (g_pot : Int32).toInt ∧ (g_pot : Int32).toInt ≤ 999) (h_g_men : 0 ≤ (g_men : Int32).toInt ∧ (g_men : Int32).toInt ≤ 8) (h_g_clauses : 0 ≤ (g_clauses : Int32).toInt ∧ (g_clauses : Int32).toInt ≤ 7) (h_g_winds : 0 ≤ (g_winds : Int32).toInt ∧ (g_winds : Int32).toInt ≤ 4) (h_g_far0 : -999 ≤ (g_far0 : Int32).toInt ∧ (g_far0 : Int32).toInt ≤ 999) (h_g_far1 : -999 ≤ (g_far1 : Int32).toInt ∧ (g_far1 : Int32).toInt ≤ 999) : Met l yX8_leastHold (Cond.code yX8_leastHold cX8_leastHold 6 (some .int) :: TB) (rmd 5 0 0) (PM D cA sz [(h0, .inr (8, [.ref sp_qreached, .ref g])), (sp_qreached, .inl (cA 1, 128, .inl sp_creached)), (g, .inr (3, [.int g_odds, .int g_pot, .int g_lines, .int g_men, .int g_clauses, .int g_winds, .int g_far0, .int g_far1, .ref g_qsides, .ref g_qgrips, .ref g_qwits, .ref g_qsays, .ref g_qgives0, .ref g_qgives1, .ref g_qfroms, .ref g_qtos])), (g_qsays, .inl (cA 1, 7, .inl g_csays))] [.ref h0, .int p0]) (va_Qi (fun r (u : SU) => True) (fun u t => va_P D vwCl [(h0, .inr (8, [.ref sp_qreached, .ref g])), (sp_qreached, .inl (cA 1, 128, .inl (u.2.2.1 0))), (g, .inr (3, [.int g_odds, .int g_pot, .int g_lines, .int g_men, .int g_clauses, .int g_winds, .int g_far0, .int g_far1, .ref g_qsides, .ref g_qgrips, .ref g_qwits, .ref g_qsays, .ref g_qgives0, .ref g_qgives1, .ref g_qfroms, .ref g_qtos])), (g_qsays, .inl (cA 1, 7, .inl g_csays))] t.heap ∧ va_D (va_A [(h0, .inr (8, [.ref sp_qreached, .ref g])), (sp_qreached, .inl (cA 1, 128, .inl sp_creached)), (g, .inr (3, [.int g_odds, .int g_pot, .int g_lines, .int g_men, .int g_clauses, .int g_winds, .int g_far0, .int g_far1, .ref g_qsides, .ref g_qgrips, .ref g_qwits, .ref g_qsays, .ref g_qgives0, .ref g_qgives1, .ref g_qfroms, .ref g_qtos])), (g_qsays, .inl (cA 1, 7, .inl g_csays))] sz) [(h0, .inr (8, [.ref sp_qreached, .ref g])), (sp_qreached, .inl (cA 1, 128, .inl (u.2.2.1 0))), (g, .inr (3, [.int g_odds, .int g_pot, .int g_lines, .int g_men, .int g_clauses, .int g_winds, .int g_far0, .int g_far1, .ref g_qsides, .ref g_qgrips, .ref g_qwits, .ref g_qsays, .ref g_qgives0, .ref g_qgives1, .ref g_qfroms, .ref g_qtos])), (g_qsays, .inl (cA 1, 7, .inl g_csays))]) (va_A [(h0, .inr (8, [.ref sp_qreached, .ref g])), (sp_qreached, .inl (cA 1, 128, .inl sp_creached)), (g, .inr (3, [.int g_odds, .int g_pot, .int g_lines, .int g_men, .int g_clauses, .int g_winds, .int g_far0, .int g_far1, .ref g_qsides, .ref g_qgrips, .ref g_qwits, .ref g_qsays, .ref g_qgives0, .ref g_qgives1, .ref g_qfroms, .ref g_qtos])), (g_qsays, .inl (cA 1, 7, .inl g_csays))] sz)) 0 0 (va_A [(h0, .inr (8, [.ref sp_qreached, .ref g])), (sp_qreached, .inl (cA 1, 128, .inl sp_creached)), (g, .inr (3, [.int g_odds, .int g_pot, .int g_lines, .int g_men, .int g_clauses, .int g_winds, .int g_far0, .int g_far1, .ref g_qsides, .ref g_qgrips, .ref g_qwits, .ref g_qsays, .ref g_qgives0, .ref g_qgives1, .ref g_qfroms, .ref g_qtos])), (g_qsays, .inl (cA 1, 7, .inl g_csays))] sz) := by
  refine Met.ofW (cc := cX8_leastHold) (maxL := 6) (ret := (some .int)) (by decide) rfl ?_
  intro p e s m args below meth c s₁ B hml hv
  obtain ⟨rfl, hsz, hP, hKN, hD0⟩ := hv
  have hx := B.exec
  have hb := B.bytes
  have hr := B.returns
  have hts : ∀ w ∈ TB, w.before _ s = true := fun w h => atoms_spec B.pre w (List.mem_cons_of_mem _ h)
  have hown : s.vm.findClass RX8 = some m.cls := findClass_of_methodNamed B.named
  have hlocks := B.notSynchronized
  subst hsz
  have hD := hD0.self (sz := s.heap.size)
  generalize hAe : va_A [(h0, .inr (8, [.ref sp_qreached, .ref g])), (sp_qreached, .inl (cA 1, 128, .inl sp_creached)), (g, .inr (3, [.int g_odds, .int g_pot, .int g_lines, .int g_men, .int g_clauses, .int g_winds, .int g_far0, .int g_far1, .ref g_qsides, .ref g_qgrips, .ref g_qwits, .ref g_qsays, .ref g_qgives0, .ref g_qgives1, .ref g_qfroms, .ref g_qtos])), (g_qsays, .inl (cA 1, 7, .inl g_csays))] s.heap.size = A at hD ⊢
  have hA : ∀ q : Nat, s.heap.size ≤ q → A q := fun q h => by rw [← hAe]; exact Or.inr h
  have hS : va_S A s.heap s.heap [] := va_S.rf
  have hl := lv_entry ([.ref h0, .int p0]) (n := 6) (Nat.le_of_ble_eq_true rfl)
  rw [lg_entry_eq]
  generalize (lg_sl ([.ref h0, .int p0]) ++ List.replicate (6 - (lg_sl ([.ref h0, .int p0])).length) Slot.unset).toArray = ls at hl ⊢
  have hl : lv_has ls 6 [(0, .ref h0), (1, .int p0)] := hl
  refine lv_aload_n hx hb dX8_leastHold_0 rfl (lv_at hl 0 rfl) ?_
  refine cpVi (rest := []) ⟨hx, hb, hml, hown, hts⟩ hKN (hP.sub (ws' := [(h0, .inr (8, [.ref sp_qreached, .ref g])), (g, .inr (3, [.int g_odds, .int g_pot, .int g_lines, .int g_men, .int g_clauses, .int g_winds, .int g_far0, .int g_far1, .ref g_qsides, .ref g_qgrips, .ref g_qwits, .ref g_qsays, .ref g_qgives0, .ref g_qgives1, .ref g_qfroms, .ref g_qtos])), (g_qsays, .inl (cA 1, 7, .inl g_csays))]) [0, 2, 3] rfl) (g_X8_longestClause l D cA h0 sp_qreached g g_odds g_pot g_lines g_men g_clauses g_winds g_far0 g_far1 g_qsides g_qgrips g_qwits g_qsays g_qgives0 g_qgives1 g_qfroms g_qtos g_csays (by omega) (by omega) (by omega) (by omega) (by omega) (by omega) (by omega)) (tb_V tw_995 tw_997 tw_18 tw_111 tw_998) hdX8_longestClause ⟨rfl, rfl, Nat.le_of_ble_eq_true rfl, Nat.le_of_ble_eq_true rfl⟩ ⟨Nat.le_of_ble_eq_true rfl, Nat.le_of_ble_eq_true rfl⟩ rfl rfl rfl hl.1 rfl (Nat.le_of_ble_eq_true rfl) dX8_leastHold_1 (fun r_1 hr_1 => ?_)
  refine lv_istore_n (lv' := [(2, .int r_1), (0, .ref h0), (1, .int p0)]) hx hb dX8_leastHold_4 rfl hl (by decide) rfl (fun ls hl => ?_)
  refine lv_iconst (v := 0) hx hb dX8_leastHold_5 (by decide) ?_
  refine lv_istore_n (lv' := [(3, .int 0), (2, .int r_1), (0, .ref h0), (1, .int p0)]) hx hb dX8_leastHold_6 rfl hl (by decide) rfl (fun ls hl => ?_)
  refine lv_iconst (v := 0) hx hb dX8_leastHold_7 (by decide) ?_
  refine lv_istore (lv' := [(4, .int 0), (3, .int 0), (2, .int r_1), (0, .ref h0), (1, .int p0)]) hx hb dX8_leastHold_8 hl (by decide) rfl (fun ls hl => ?_)
  refine loopW (σ := Int32 × Int32) (fun _ => []) (fun ⟨L4_48, L3_48⟩ H locs ls => (0 ≤ L4_48.toInt ∧ L4_48.toInt ≤ 7) ∧ va_P D vwCl [(h0, .inr (8, [.ref sp_qreached, .ref g])), (sp_qreached, .inl (cA 1, 128, .inl sp_creached)), (g, .inr (3, [.int g_odds, .int g_pot, .int g_lines, .int g_men, .int g_clauses, .int g_winds, .int g_far0, .int g_far1, .ref g_qsides, .ref g_qgrips, .ref g_qwits, .ref g_qsays, .ref g_qgives0, .ref g_qgives1, .ref g_qfroms, .ref g_qtos])), (g_qsays, .inl (cA 1, 7, .inl g_csays))] H ∧ va_D A [(h0, .inr (8, [.ref sp_qreached, .ref g])), (sp_qreached, .inl (cA 1, 128, .inl sp_creached)), (g, .inr (3, [.int g_odds, .int g_pot, .int g_lines, .int g_men, .int g_clauses, .int g_winds, .int g_far0, .int g_far1, .ref g_qsides, .ref g_qgrips, .ref g_qwits, .ref g_qsays, .ref g_qgives0, .ref g_qgives1, .ref g_qfroms, .ref g_qtos])), (g_qsays, .inl (cA 1, 7, .inl g_csays))] ∧ va_S A s.heap H locs ∧ lv_has ls 6 [(4, .int L4_48), (3, .int L3_48), (2, .int r_1), (0, .ref h0), (1, .int p0)]) (fun ⟨L4_48, L3_48⟩ => (2147483647 - L4_48.toInt).toNat) ?_ ((0, 0) : Int32 × Int32) ⟨(by decide), hP, hD, hS, hl⟩
  intro x_48 H locs ls hI_48 ih_48
  obtain ⟨L4_48, L3_48⟩ := x_48
  obtain ⟨k0_48, hP, hD, hS, hl⟩ := hI_48
  have hP : va_P D vwCl [(h0, .inr (8, [.ref sp_qreached, .ref g])), (sp_qreached, .inl (cA 1, 128, .inl sp_creached)), (g, .inr (3, [.int g_odds, .int g_pot, .int g_lines, .int g_men, .int g_clauses, .int g_winds, .int g_far0, .int g_far1, .ref g_qsides, .ref g_qgrips, .ref g_qwits, .ref g_qsays, .ref g_qgives0, .ref g_qgives1, .ref g_qfroms, .ref g_qtos])), (g_qsays, .inl (cA 1, 7, .inl g_csays))] H := hP
  have hD : va_D A [(h0, .inr (8, [.ref sp_qreached, .ref g])), (sp_qreached, .inl (cA 1, 128, .inl sp_creached)), (g, .inr (3, [.int g_odds, .int g_pot, .int g_lines, .int g_men, .int g_clauses, .int g_winds, .int g_far0, .int g_far1, .ref g_qsides, .ref g_qgrips, .ref g_qwits, .ref g_qsays, .ref g_qgives0, .ref g_qgives1, .ref g_qfroms, .ref g_qtos])), (g_qsays, .inl (cA 1, 7, .inl g_csays))] := hD
  have hl : lv_has ls 6 [(4, .int L4_48), (3, .int L3_48), (2, .int r_1), (0, .ref h0), (1, .int p0)] := hl
  refine lv_iload hx hb dX8_leastHold_10 (lv_at hl 0 rfl) ?_
  refine lv_aload_n hx hb dX8_leastHold_12 rfl (lv_at hl 3 rfl) ?_
  refine va_get (D := D) (ci := 8) (v := .ref g) (C := RX8) (T := TX8) (N := 2) hx hb hts inX8 hown hKN.1 hP 0 rfl rfl 1 (by decide) (hts _ tw_405) (fun _ h9 => h9) rfl dX8_leastHold_13 ?_
  refine va_get (D := D) (ci := 3) (v := .int g_clauses) (C := RX3) (T := TX3) (N := 16) hx hb hts inX3 hown hKN.1 hP 2 rfl rfl 4 (by decide) (hts _ tw_173) (fun _ h9 => h9) rfl dX8_leastHold_16 ?_
  refine lv_icmp_ge (tgt := 40) hx hb dX8_leastHold_19 (by decide) (fun c_49 => ?_) (fun c_49 => ?_)
  · skip
    have k_50 := kk_le rfl rfl c_49
    refine lv_iconst (v := 0) hx hb dX8_leastHold_40 (by decide) ?_
    refine lv_istore (lv' := [(4, .int 0), (3, .int L3_48), (2, .int r_1), (0, .ref h0), (1, .int p0)]) hx hb dX8_leastHold_41 hl (by decide) rfl (fun ls hl => ?_)
    have b_222 := i32_bd L3_48
    refine loopW (σ := Int32 × Int32 × Int32 × (Nat → Int32)) (fun _ => []) (fun ⟨L4_221, L3_221, L2_221, F3_221⟩ H locs ls => (0 ≤ L4_221.toInt ∧ L4_221.toInt ≤ 10) ∧ va_P D vwCl [(h0, .inr (8, [.ref sp_qreached, .ref g])), (sp_qreached, .inl (cA 1, 128, .inl F3_221)), (g, .inr (3, [.int g_odds, .int g_pot, .int g_lines, .int g_men, .int g_clauses, .int g_winds, .int g_far0, .int g_far1, .ref g_qsides, .ref g_qgrips, .ref g_qwits, .ref g_qsays, .ref g_qgives0, .ref g_qgives1, .ref g_qfroms, .ref g_qtos])), (g_qsays, .inl (cA 1, 7, .inl g_csays))] H ∧ va_D A [(h0, .inr (8, [.ref sp_qreached, .ref g])), (sp_qreached, .inl (cA 1, 128, .inl F3_221)), (g, .inr (3, [.int g_odds, .int g_pot, .int g_lines, .int g_men, .int g_clauses, .int g_winds, .int g_far0, .int g_far1, .ref g_qsides, .ref g_qgrips, .ref g_qwits, .ref g_qsays, .ref g_qgives0, .ref g_qgives1, .ref g_qfroms, .ref g_qtos])), (g_qsays, .inl (cA 1, 7, .inl g_csays))] ∧ va_S A s.heap H locs ∧ lv_has ls 6 [(4, .int L4_221), (3, .int L3_221), (2, .int L2_221), (0, .ref h0), (1, .int p0)]) (fun ⟨L4_221, L3_221, L2_221, F3_221⟩ => (2147483647 - L4_221.toInt).toNat) ?_ ((0, L3_48, r_1, sp_creached) : Int32 × Int32 × Int32 × (Nat → Int32)) ⟨(by decide), hP, hD, hS, hl⟩
    intro x_221 H locs ls hI_221 ih_221
    obtain ⟨L4_221, L3_221, L2_221, F3_221⟩ := x_221
    obtain ⟨k0_221, hP, hD, hS, hl⟩ := hI_221
    have hP : va_P D vwCl [(h0, .inr (8, [.ref sp_qreached, .ref g])), (sp_qreached, .inl (cA 1, 128, .inl F3_221)), (g, .inr (3, [.int g_odds, .int g_pot, .int g_lines, .int g_men, .int g_clauses, .int g_winds, .int g_far0, .int g_far1, .ref g_qsides, .ref g_qgrips, .ref g_qwits, .ref g_qsays, .ref g_qgives0, .ref g_qgives1, .ref g_qfroms, .ref g_qtos])), (g_qsays, .inl (cA 1, 7, .inl g_csays))] H := hP
    have hD : va_D A [(h0, .inr (8, [.ref sp_qreached, .ref g])), (sp_qreached, .inl (cA 1, 128, .inl F3_221)), (g, .inr (3, [.int g_odds, .int g_pot, .int g_lines, .int g_men, .int g_clauses, .int g_winds, .int g_far0, .int g_far1, .ref g_qsides, .ref g_qgrips, .ref g_qwits, .ref g_qsays, .ref g_qgives0, .ref g_qgives1, .ref g_qfroms, .ref g_qtos])), (g_qsays, .inl (cA 1, 7, .inl g_csays))] := hD
    have hl : lv_has ls 6 [(4, .int L4_221), (3, .int L3_221), (2, .int L2_221), (0, .ref h0), (1, .int p0)] := hl
    refine lv_iload hx hb dX8_leastHold_43 (lv_at hl 0 rfl) ?_
    refine lv_bipush (v := 10) hx hb dX8_leastHold_45 (by decide) ?_
    refine lv_icmp_ge (tgt := 89) hx hb dX8_leastHold_47 (by decide) (fun c_223 => ?_) (fun c_223 => ?_)
    · skip
      have k_224 := kk_le zi_10 rfl c_223
      refine lv_iload_n hx hb dX8_leastHold_89 rfl (lv_at hl 2 rfl) ?_
      have hP9 := hP.sub (ws' := [(h0, .inr (8, [.ref sp_qreached, .ref g])), (sp_qreached, .inl (cA 1, 128, .inl F3_221)), (g, .inr (3, [.int g_odds, .int g_pot, .int g_lines, .int g_men, .int g_clauses, .int g_winds, .int g_far0, .int g_far1, .ref g_qsides, .ref g_qgrips, .ref g_qwits, .ref g_qsays, .ref g_qgives0, .ref g_qgives1, .ref g_qfroms, .ref g_qtos])), (g_qsays, .inl (cA 1, 7, .inl g_csays))]) [0, 1, 2, 3] rfl
      have hD9 := hD.sub (ws' := [(h0, .inr (8, [.ref sp_qreached, .ref g])), (sp_qreached, .inl (cA 1, 128, .inl F3_221)), (g, .inr (3, [.int g_odds, .int g_pot, .int g_lines, .int g_men, .int g_clauses, .int g_winds, .int g_far0, .int g_far1, .ref g_qsides, .ref g_qgrips, .ref g_qwits, .ref g_qsays, .ref g_qgives0, .ref g_qgives1, .ref g_qfroms, .ref g_qtos])), (g_qsays, .inl (cA 1, 7, .inl g_csays))]) [0, 1, 2, 3] (by decide) rfl
      exact W.iret (v := L2_221) hx hb hr (fun t ht hW => ⟨⟨L2_221, ((fun _ => 0), (fun _ => 0), (selF [F3_221]), (fun _ _ => 0)), rfl, trivial, by rw [ht]; exact hP9, hD9⟩, hS.F ht⟩) hS.2.2 dX8_leastHold_90
    · skip
      have k_225 := kk_nle zi_10 rfl c_223
      refine lv_iload_n hx hb dX8_leastHold_50 rfl (lv_at hl 2 rfl) ?_
      refine lv_iload_n hx hb dX8_leastHold_51 rfl (lv_at hl 1 rfl) ?_
      refine lv_icmp_ge (tgt := 89) hx hb dX8_leastHold_52 (by decide) (fun c_226 => ?_) (fun c_226 => ?_)
      · skip
        have b_228 := i32_bd L3_221
        have b_229 := i32_bd L2_221
        have k_227 := kk_le rfl rfl c_226
        refine lv_iload_n hx hb dX8_leastHold_89 rfl (lv_at hl 2 rfl) ?_
        have hP9 := hP.sub (ws' := [(h0, .inr (8, [.ref sp_qreached, .ref g])), (sp_qreached, .inl (cA 1, 128, .inl F3_221)), (g, .inr (3, [.int g_odds, .int g_pot, .int g_lines, .int g_men, .int g_clauses, .int g_winds, .int g_far0, .int g_far1, .ref g_qsides, .ref g_qgrips, .ref g_qwits, .ref g_qsays, .ref g_qgives0, .ref g_qgives1, .ref g_qfroms, .ref g_qtos])), (g_qsays, .inl (cA 1, 7, .inl g_csays))]) [0, 1, 2, 3] rfl
        have hD9 := hD.sub (ws' := [(h0, .inr (8, [.ref sp_qreached, .ref g])), (sp_qreached, .inl (cA 1, 128, .inl F3_221)), (g, .inr (3, [.int g_odds, .int g_pot, .int g_lines, .int g_men, .int g_clauses, .int g_winds, .int g_far0, .int g_far1, .ref g_qsides, .ref g_qgrips, .ref g_qwits, .ref g_qsays, .ref g_qgives0, .ref g_qgives1, .ref g_qfroms, .ref g_qtos])), (g_qsays, .inl (cA 1, 7, .inl g_csays))]) [0, 1, 2, 3] (by decide) rfl
        exact W.iret (v := L2_221) hx hb hr (fun t ht hW => ⟨⟨L2_221, ((fun _ => 0), (fun _ => 0), (selF [F3_221]), (fun _ _ => 0)), rfl, trivial, by rw [ht]; exact hP9, hD9⟩, hS.F ht⟩) hS.2.2 dX8_leastHold_90
      · skip
        have b_231 := i32_bd L3_221
        have b_232 := i32_bd L2_221
        have k_230 := kk_nle rfl rfl c_226
        refine lv_iload_n hx hb dX8_leastHold_55 rfl (lv_at hl 2 rfl) ?_
        refine lv_iload_n hx hb dX8_leastHold_56 rfl (lv_at hl 1 rfl) ?_
        refine lv_iadd hx hb dX8_leastHold_57 ?_
        refine lv_topi (fun x_233 ex_233 => ?_)
        refine lv_iconst (v := 1) hx hb dX8_leastHold_58 (by decide) ?_
        refine lv_ishr hx hb dX8_leastHold_59 ?_
        refine lv_topi (fun x_235 ex_235 => ?_)
        refine lv_istore (lv' := [(5, .int x_235), (4, .int L4_221), (3, .int L3_221), (2, .int L2_221), (0, .ref h0), (1, .int p0)]) hx hb dX8_leastHold_60 hl (by decide) rfl (fun ls hl => ?_)
        refine lv_aload_n hx hb dX8_leastHold_62 rfl (lv_at hl 4 rfl) ?_
        refine lv_iload hx hb dX8_leastHold_63 (lv_at hl 0 rfl) ?_
        refine cmVi (rest := []) (wsC := [(h0, .inr (8, [.ref sp_qreached, .ref g])), (sp_qreached, .inl (cA 1, 128, .inl F3_221)), (g, .inr (3, [.int g_odds, .int g_pot, .int g_lines, .int g_men, .int g_clauses, .int g_winds, .int g_far0, .int g_far1, .ref g_qsides, .ref g_qgrips, .ref g_qwits, .ref g_qsays, .ref g_qgives0, .ref g_qgives1, .ref g_qfroms, .ref g_qtos])), (g_qsays, .inl (cA 1, 7, .inl g_csays))]) (wr := []) ⟨hx, hb, hml, hown, hts⟩ hKN hP hD hS hA [0, 1, 2, 3] [] rfl rfl (by decide) (by decide) (by decide) (g_X8_fewestMeetings l D cA _ h0 sp_qreached g F3_221 g_odds g_pot g_lines g_men g_clauses g_winds g_far0 g_far1 g_qsides g_qgrips g_qwits g_qsays g_qgives0 g_qgives1 g_qfroms g_qtos g_csays x_235 (by omega) (by omega) (by omega) (by omega) (by omega) (by omega) (by omega)) (tb_V tw_1021 tw_992 tw_993 tw_111 tw_994) hdX8_fewestMeetings ⟨rfl, rfl, Nat.le_of_ble_eq_true rfl, Nat.le_of_ble_eq_true rfl⟩ ⟨Nat.le_of_ble_eq_true rfl, Nat.le_of_ble_eq_true rfl⟩ rfl rfl rfl hl.1 rfl (Nat.le_of_ble_eq_true rfl) dX8_leastHold_65 (fun r_237 u_237 H locs hr_237 hP hD hS => ?_)
        have hP : va_P D vwCl [(h0, .inr (8, [.ref sp_qreached, .ref g])), (sp_qreached, .inl (cA 1, 128, .inl (u_237.2.2.1 0))), (g, .inr (3, [.int g_odds, .int g_pot, .int g_lines, .int g_men, .int g_clauses, .int g_winds, .int g_far0, .int g_far1, .ref g_qsides, .ref g_qgrips, .ref g_qwits, .ref g_qsays, .ref g_qgives0, .ref g_qgives1, .ref g_qfroms, .ref g_qtos])), (g_qsays, .inl (cA 1, 7, .inl g_csays))] H := hP
        have hD : va_D A [(h0, .inr (8, [.ref sp_qreached, .ref g])), (sp_qreached, .inl (cA 1, 128, .inl (u_237.2.2.1 0))), (g, .inr (3, [.int g_odds, .int g_pot, .int g_lines, .int g_men, .int g_clauses, .int g_winds, .int g_far0, .int g_far1, .ref g_qsides, .ref g_qgrips, .ref g_qwits, .ref g_qsays, .ref g_qgives0, .ref g_qgives1, .ref g_qfroms, .ref g_qtos])), (g_qsays, .inl (cA 1, 7, .inl g_csays))] := hD
        refine lv_iload_n hx hb dX8_leastHold_68 rfl (lv_at hl 5 rfl) ?_
        refine lv_icmp_gt (tgt := 78) hx hb dX8_leastHold_69 (by decide) (fun c_238 => ?_) (fun c_238 => ?_)
        · skip
          have b_240 := i32_bd p0
          have b_241 := i32_bd r_237
          have k_239 := kk_lt rfl rfl c_238
          refine lv_iload hx hb dX8_leastHold_78 (lv_at hl 0 rfl) ?_
          refine lv_iconst (v := 1) hx hb dX8_leastHold_80 (by decide) ?_
          refine lv_iadd hx hb dX8_leastHold_81 ?_
          refine lv_topi (fun x_242 ex_242 => ?_)
          refine lv_istore_n (lv' := [(2, .int x_242), (5, .int x_235), (4, .int L4_221), (3, .int L3_221), (0, .ref h0), (1, .int p0)]) hx hb dX8_leastHold_82 rfl hl (by decide) rfl (fun ls hl => ?_)
          obtain ⟨x_244, ex_244⟩ : ∃ y : Int32, L4_221 + Int32.ofInt 1 = y := ⟨_, rfl⟩
          have k_245 := ar_add (b := 1) rfl zi_1 ex_244.symm (by omega) (by omega)
          refine lv_iinc (v := x_244) (lv' := [(4, .int x_244), (2, .int x_242), (5, .int x_235), (3, .int L3_221), (0, .ref h0), (1, .int p0)]) hx hb dX8_leastHold_83 hl (k := 2) rfl ex_244 (by decide) rfl (fun ls hl => ?_)
          refine lv_goto (tgt := 43) hx hb dX8_leastHold_86 (by decide) ?_
          exact ih_221 (x_244, L3_221, x_242, (u_237.2.2.1 0)) _ _ _ ⟨(show 0 ≤ x_244.toInt ∧ x_244.toInt ≤ 10 from by omega), hP.sub [0, 1, 2, 3] rfl, hD.sub [0, 1, 2, 3] (by decide) rfl, hS, lv_sub hl [0, 3, 1, 4, 5] rfl⟩ (by show (2147483647 - x_244.toInt).toNat < (2147483647 - L4_221.toInt).toNat; omega)
        · skip
          have b_247 := i32_bd p0
          have b_248 := i32_bd r_237
          have k_246 := kk_nlt rfl rfl c_238
          refine lv_iload hx hb dX8_leastHold_72 (lv_at hl 0 rfl) ?_
          refine lv_istore_n (lv' := [(3, .int x_235), (5, .int x_235), (4, .int L4_221), (2, .int L2_221), (0, .ref h0), (1, .int p0)]) hx hb dX8_leastHold_74 rfl hl (by decide) rfl (fun ls hl => ?_)
          refine lv_goto (tgt := 83) hx hb dX8_leastHold_75 (by decide) ?_
          obtain ⟨x_249, ex_249⟩ : ∃ y : Int32, L4_221 + Int32.ofInt 1 = y := ⟨_, rfl⟩
          have k_250 := ar_add (b := 1) rfl zi_1 ex_249.symm (by omega) (by omega)
          refine lv_iinc (v := x_249) (lv' := [(4, .int x_249), (3, .int x_235), (5, .int x_235), (2, .int L2_221), (0, .ref h0), (1, .int p0)]) hx hb dX8_leastHold_83 hl (k := 2) rfl ex_249 (by decide) rfl (fun ls hl => ?_)
          refine lv_goto (tgt := 43) hx hb dX8_leastHold_86 (by decide) ?_
          exact ih_221 (x_249, x_235, L2_221, (u_237.2.2.1 0)) _ _ _ ⟨(show 0 ≤ x_249.toInt ∧ x_249.toInt ≤ 10 from by omega), hP.sub [0, 1, 2, 3] rfl, hD.sub [0, 1, 2, 3] (by decide) rfl, hS, lv_sub hl [0, 1, 3, 4, 5] rfl⟩ (by show (2147483647 - x_249.toInt).toNat < (2147483647 - L4_221.toInt).toNat; omega)
  · skip
    have k_251 := kk_nle rfl rfl c_49
    refine lv_iload_n hx hb dX8_leastHold_22 rfl (lv_at hl 1 rfl) ?_
    refine lv_aload_n hx hb dX8_leastHold_23 rfl (lv_at hl 3 rfl) ?_
    refine va_get (D := D) (ci := 8) (v := .ref g) (C := RX8) (T := TX8) (N := 2) hx hb hts inX8 hown hKN.1 hP 0 rfl rfl 1 (by decide) (hts _ tw_405) (fun _ h9 => h9) rfl dX8_leastHold_24 ?_
    refine lv_iload hx hb dX8_leastHold_27 (lv_at hl 0 rfl) ?_
    refine cpVi (rest := [.int L3_48]) ⟨hx, hb, hml, hown, hts⟩ hKN (hP.sub (ws' := [(g, .inr (3, [.int g_odds, .int g_pot, .int g_lines, .int g_men, .int g_clauses, .int g_winds, .int g_far0, .int g_far1, .ref g_qsides, .ref g_qgrips, .ref g_qwits, .ref g_qsays, .ref g_qgives0, .ref g_qgives1, .ref g_qfroms, .ref g_qtos])), (g_qsays, .inl (cA 1, 7, .inl g_csays))]) [2, 3] rfl) (g_X3_lengthOf l D cA g g_odds g_pot g_lines g_men g_clauses g_winds g_far0 g_far1 g_qsides g_qgrips g_qwits g_qsays g_qgives0 g_qgives1 g_qfroms g_qtos g_csays L4_48 (by omega) (by omega) (by omega) (by omega) (by omega) (by omega) (by omega)) (tb_V tw_975 tw_724 tw_725 tw_104 tw_726) hdX3_lengthOf ⟨rfl, rfl, Nat.le_of_ble_eq_true rfl, Nat.le_of_ble_eq_true rfl⟩ ⟨Nat.le_of_ble_eq_true rfl, Nat.le_of_ble_eq_true rfl⟩ rfl rfl rfl hl.1 rfl (Nat.le_of_ble_eq_true rfl) dX8_leastHold_29 (fun r_252 hr_252 => ?_)
    refine lv_iadd hx hb dX8_leastHold_32 ?_
    refine lv_topi (fun x_253 ex_253 => ?_)
    refine lv_istore_n (lv' := [(3, .int x_253), (4, .int L4_48), (2, .int r_1), (0, .ref h0), (1, .int p0)]) hx hb dX8_leastHold_33 rfl hl (by decide) rfl (fun ls hl => ?_)
    obtain ⟨x_255, ex_255⟩ : ∃ y : Int32, L4_48 + Int32.ofInt 1 = y := ⟨_, rfl⟩
    have k_256 := ar_add (b := 1) rfl zi_1 ex_255.symm (by omega) (by omega)
    refine lv_iinc (v := x_255) (lv' := [(4, .int x_255), (3, .int x_253), (2, .int r_1), (0, .ref h0), (1, .int p0)]) hx hb dX8_leastHold_34 hl (k := 1) rfl ex_255 (by decide) rfl (fun ls hl => ?_)
    refine lv_goto (tgt := 10) hx hb dX8_leastHold_37 (by decide) ?_
    exact ih_48 (x_255, x_253) _ _ _ ⟨(show 0 ≤ x_255.toInt ∧ x_255.toInt ≤ 7 from by omega), hP.sub [0, 1, 2, 3] rfl, hD.sub [0, 1, 2, 3] (by decide) rfl, hS, lv_sub hl [0, 1, 2, 3, 4] rfl⟩ (by show (2147483647 - x_255.toInt).toNat < (2147483647 - L4_48.toInt).toNat; omega)
set_option maxHeartbeats 8000000 in
set_option maxRecDepth 100000 in
theorem g_X0_isSigned (l : Launch) (D : va_G) (cA : Nat → ClassId) (h0 : Nat) (b_bundlesFound : Int32) (b_firstBundle : Int32) (b_sets : Int32) (b_qlengths : Nat) (b_qworths0 : Nat) (b_qworths1 : Nat) (g : Nat) (b_cworths0 : Nat → Int32) (b_cworths1 : Nat → Int32) (p0 : Int32) : Met l yX0_isSigned (Cond.code yX0_isSigned cX0_isSigned 2 (some .boolean) :: TB) (rmd 0 0 0) (PP D cA [(h0, .inr (0, [.int b_bundlesFound, .int b_firstBundle, .int b_sets, .ref b_qlengths, .ref b_qworths0, .ref b_qworths1, .ref g])), (b_qworths0, .inl (cA 1, 128, .inl b_cworths0)), (b_qworths1, .inl (cA 1, 128, .inl b_cworths1))] [.ref h0, .int p0]) (vp_Si (fun r => 0 ≤ r.toInt ∧ r.toInt ≤ 1)) 0 0 (fun _ => False) := by
  refine Met.ofW (cc := cX0_isSigned) (maxL := 2) (ret := (some .boolean)) (by decide) rfl ?_
  intro p e s m args below meth c s₁ B hml hv
  obtain ⟨rfl, hP, hKN⟩ := hv
  have hx := B.exec
  have hb := B.bytes
  have hr := B.returns
  have hts : ∀ w ∈ TB, w.before _ s = true := fun w h => atoms_spec B.pre w (List.mem_cons_of_mem _ h)
  have hown : s.vm.findClass RX0 = some m.cls := findClass_of_methodNamed B.named
  have hlocks := B.notSynchronized
  have hl := lv_entry ([.ref h0, .int p0]) (n := 2) (Nat.le_of_ble_eq_true rfl)
  rw [lg_entry_eq]
  generalize (lg_sl ([.ref h0, .int p0]) ++ List.replicate (2 - (lg_sl ([.ref h0, .int p0])).length) Slot.unset).toArray = ls at hl ⊢
  have hl : lv_has ls 2 [(0, .ref h0), (1, .int p0)] := hl
  refine lv_iload_n hx hb dX0_isSigned_0 rfl (lv_at hl 1 rfl) ?_
  refine lv_if_lt (tgt := 33) hx hb dX0_isSigned_1 (by decide) (fun c_1 => ?_) (fun c_1 => ?_)
  · skip
    have b_3 := i32_bd p0
    have k_2 := kk_lt rfl zi_0 c_1
    refine lv_iconst (v := 0) hx hb dX0_isSigned_33 (by decide) ?_
    exact W.zret (v := 0) hx hb hr (by decide) (fun t ht hW => ⟨0, rfl, (show 0 ≤ (0 : Int32).toInt ∧ (0 : Int32).toInt ≤ 1 from by decide), ht⟩) (fun _ h => by cases h) dX0_isSigned_34
  · skip
    have b_5 := i32_bd p0
    have k_4 := kk_nlt rfl zi_0 c_1
    refine lv_iload_n hx hb dX0_isSigned_4 rfl (lv_at hl 1 rfl) ?_
    refine lv_sipush (v := 128) hx hb dX0_isSigned_5 (by decide) ?_
    refine lv_icmp_ge (tgt := 33) hx hb dX0_isSigned_8 (by decide) (fun c_6 => ?_) (fun c_6 => ?_)
    · skip
      have k_7 := kk_le zi_128 rfl c_6
      refine lv_iconst (v := 0) hx hb dX0_isSigned_33 (by decide) ?_
      exact W.zret (v := 0) hx hb hr (by decide) (fun t ht hW => ⟨0, rfl, (show 0 ≤ (0 : Int32).toInt ∧ (0 : Int32).toInt ≤ 1 from by decide), ht⟩) (fun _ h => by cases h) dX0_isSigned_34
    · skip
      have k_8 := kk_nle zi_128 rfl c_6
      refine lv_aload_n hx hb dX0_isSigned_11 rfl (lv_at hl 0 rfl) ?_
      refine va_get (D := D) (ci := 0) (v := .ref b_qworths0) (C := RX0) (T := TX0) (N := 7) hx hb hts inX0 hown hKN.1 hP 0 rfl rfl 4 (by decide) (hts _ tw_423) (fun _ h9 => h9) rfl dX0_isSigned_12 ?_
      refine lv_iload_n hx hb dX0_isSigned_15 rfl (lv_at hl 1 rfl) ?_
      refine va_iald hx hb hKN.1 hP 1 1 rfl rfl (vp_in_iff.mpr ⟨by omega, by omega⟩) dX0_isSigned_16 ?_
      refine lv_topi (fun x_9 ex_9 => ?_)
      refine lv_if_lt (tgt := 33) hx hb dX0_isSigned_17 (by decide) (fun c_10 => ?_) (fun c_10 => ?_)
      · skip
        have b_12 := i32_bd x_9
        have k_11 := kk_lt rfl zi_0 c_10
        refine lv_iconst (v := 0) hx hb dX0_isSigned_33 (by decide) ?_
        exact W.zret (v := 0) hx hb hr (by decide) (fun t ht hW => ⟨0, rfl, (show 0 ≤ (0 : Int32).toInt ∧ (0 : Int32).toInt ≤ 1 from by decide), ht⟩) (fun _ h => by cases h) dX0_isSigned_34
      · skip
        have b_14 := i32_bd x_9
        have k_13 := kk_nlt rfl zi_0 c_10
        refine lv_aload_n hx hb dX0_isSigned_20 rfl (lv_at hl 0 rfl) ?_
        refine va_get (D := D) (ci := 0) (v := .ref b_qworths1) (C := RX0) (T := TX0) (N := 7) hx hb hts inX0 hown hKN.1 hP 0 rfl rfl 5 (by decide) (hts _ tw_424) (fun _ h9 => h9) rfl dX0_isSigned_21 ?_
        refine lv_iload_n hx hb dX0_isSigned_24 rfl (lv_at hl 1 rfl) ?_
        refine va_iald hx hb hKN.1 hP 2 1 rfl rfl (vp_in_iff.mpr ⟨by omega, by omega⟩) dX0_isSigned_25 ?_
        refine lv_topi (fun x_15 ex_15 => ?_)
        refine lv_if_lt (tgt := 33) hx hb dX0_isSigned_26 (by decide) (fun c_16 => ?_) (fun c_16 => ?_)
        · skip
          have b_18 := i32_bd x_15
          have k_17 := kk_lt rfl zi_0 c_16
          refine lv_iconst (v := 0) hx hb dX0_isSigned_33 (by decide) ?_
          exact W.zret (v := 0) hx hb hr (by decide) (fun t ht hW => ⟨0, rfl, (show 0 ≤ (0 : Int32).toInt ∧ (0 : Int32).toInt ≤ 1 from by decide), ht⟩) (fun _ h => by cases h) dX0_isSigned_34
        · skip
          have b_20 := i32_bd x_15
          have k_19 := kk_nlt rfl zi_0 c_16
          refine lv_iconst (v := 1) hx hb dX0_isSigned_29 (by decide) ?_
          refine lv_goto (tgt := 34) hx hb dX0_isSigned_30 (by decide) ?_
          exact W.zret (v := 1) hx hb hr (by decide) (fun t ht hW => ⟨1, rfl, (show 0 ≤ (1 : Int32).toInt ∧ (1 : Int32).toInt ≤ 1 from by decide), ht⟩) (fun _ h => by cases h) dX0_isSigned_34
set_option maxHeartbeats 8000000 in
set_option maxRecDepth 100000 in
theorem g_X0_worthOfBoth (l : Launch) (D : va_G) (cA : Nat → ClassId) (h0 : Nat) (b_bundlesFound : Int32) (b_firstBundle : Int32) (b_sets : Int32) (b_qlengths : Nat) (b_qworths0 : Nat) (b_qworths1 : Nat) (g : Nat) (g_odds : Int32) (g_pot : Int32) (g_lines : Int32) (g_men : Int32) (g_clauses : Int32) (g_winds : Int32) (g_far0 : Int32) (g_far1 : Int32) (g_qsides : Nat) (g_qgrips : Nat) (g_qwits : Nat) (g_qsays : Nat) (g_qgives0 : Nat) (g_qgives1 : Nat) (g_qfroms : Nat) (g_qtos : Nat) (g_cgives0 : Nat → Int32) (g_cgives1 : Nat → Int32) (p0 : Int32) (h_g_odds : -999 ≤ (g_odds : Int32).toInt ∧ (g_odds : Int32).toInt ≤ 999) (h_g_pot : -999 ≤ (g_pot : Int32).toInt ∧ (g_pot : Int32).toInt ≤ 999) (h_g_men : 0 ≤ (g_men : Int32).toInt ∧ (g_men : Int32).toInt ≤ 8) (h_g_clauses : 0 ≤ (g_clauses : Int32).toInt ∧ (g_clauses : Int32).toInt ≤ 7) (h_g_winds : 0 ≤ (g_winds : Int32).toInt ∧ (g_winds : Int32).toInt ≤ 4) (h_g_far0 : -999 ≤ (g_far0 : Int32).toInt ∧ (g_far0 : Int32).toInt ≤ 999) (h_g_far1 : -999 ≤ (g_far1 : Int32).toInt ∧ (g_far1 : Int32).toInt ≤ 999) : Met l yX0_worthOfBoth (Cond.code yX0_worthOfBoth cX0_worthOfBoth 2 (some .int) :: TB) (rmd 3 0 0) (PP D cA [(h0, .inr (0, [.int b_bundlesFound, .int b_firstBundle, .int b_sets, .ref b_qlengths, .ref b_qworths0, .ref b_qworths1, .ref g])), (g, .inr (3, [.int g_odds, .int g_pot, .int g_lines, .int g_men, .int g_clauses, .int g_winds, .int g_far0, .int g_far1, .ref g_qsides, .ref g_qgrips, .ref g_qwits, .ref g_qsays, .ref g_qgives0, .ref g_qgives1, .ref g_qfroms, .ref g_qtos])), (g_qgives0, .inl (cA 1, 7, .inl g_cgives0)), (g_qgives1, .inl (cA 1, 7, .inl g_cgives1))] [.ref h0, .int p0]) (vp_Si (fun r => True)) 0 0 (fun _ => False) := by
  refine Met.ofW (cc := cX0_worthOfBoth) (maxL := 2) (ret := (some .int)) (by decide) rfl ?_
  intro p e s m args below meth c s₁ B hml hv
  obtain ⟨rfl, hP, hKN⟩ := hv
  have hx := B.exec
  have hb := B.bytes
  have hr := B.returns
  have hts : ∀ w ∈ TB, w.before _ s = true := fun w h => atoms_spec B.pre w (List.mem_cons_of_mem _ h)
  have hown : s.vm.findClass RX0 = some m.cls := findClass_of_methodNamed B.named
  have hlocks := B.notSynchronized
  have hl := lv_entry ([.ref h0, .int p0]) (n := 2) (Nat.le_of_ble_eq_true rfl)
  rw [lg_entry_eq]
  generalize (lg_sl ([.ref h0, .int p0]) ++ List.replicate (2 - (lg_sl ([.ref h0, .int p0])).length) Slot.unset).toArray = ls at hl ⊢
  have hl : lv_has ls 2 [(0, .ref h0), (1, .int p0)] := hl
  refine lv_aload_n hx hb dX0_worthOfBoth_0 rfl (lv_at hl 0 rfl) ?_
  refine va_get (D := D) (ci := 0) (v := .ref g) (C := RX0) (T := TX0) (N := 7) hx hb hts inX0 hown hKN.1 hP 0 rfl rfl 6 (by decide) (hts _ tw_425) (fun _ h9 => h9) rfl dX0_worthOfBoth_1 ?_
  refine lv_iload_n hx hb dX0_worthOfBoth_4 rfl (lv_at hl 1 rfl) ?_
  refine lv_iconst (v := 0) hx hb dX0_worthOfBoth_5 (by decide) ?_
  have z_1 := zi_0
  refine cpVi (rest := []) ⟨hx, hb, hml, hown, hts⟩ hKN (hP.sub (ws' := [(g, .inr (3, [.int g_odds, .int g_pot, .int g_lines, .int g_men, .int g_clauses, .int g_winds, .int g_far0, .int g_far1, .ref g_qsides, .ref g_qgrips, .ref g_qwits, .ref g_qsays, .ref g_qgives0, .ref g_qgives1, .ref g_qfroms, .ref g_qtos])), (g_qgives0, .inl (cA 1, 7, .inl g_cgives0)), (g_qgives1, .inl (cA 1, 7, .inl g_cgives1))]) [1, 2, 3] rfl) (g_X3_worthOf l D cA g g_odds g_pot g_lines g_men g_clauses g_winds g_far0 g_far1 g_qsides g_qgrips g_qwits g_qsays g_qgives0 g_qgives1 g_qfroms g_qtos g_cgives0 g_cgives1 p0 0 (by omega) (by omega) (by omega) (by omega) (by omega) (by omega) (by omega)) (tb_V tw_1078 tw_1079 tw_1080 tw_104 tw_1081) hdX3_worthOf ⟨rfl, rfl, Nat.le_of_ble_eq_true rfl, Nat.le_of_ble_eq_true rfl⟩ ⟨Nat.le_of_ble_eq_true rfl, Nat.le_of_ble_eq_true rfl⟩ rfl rfl rfl hl.1 rfl (Nat.le_of_ble_eq_true rfl) dX0_worthOfBoth_6 (fun r_2 hr_2 => ?_)
  refine lv_aload_n hx hb dX0_worthOfBoth_9 rfl (lv_at hl 0 rfl) ?_
  refine va_get (D := D) (ci := 0) (v := .ref g) (C := RX0) (T := TX0) (N := 7) hx hb hts inX0 hown hKN.1 hP 0 rfl rfl 6 (by decide) (hts _ tw_425) (fun _ h9 => h9) rfl dX0_worthOfBoth_10 ?_
  refine lv_iload_n hx hb dX0_worthOfBoth_13 rfl (lv_at hl 1 rfl) ?_
  refine lv_iconst (v := 1) hx hb dX0_worthOfBoth_14 (by decide) ?_
  have z_3 := zi_1
  refine cpVi (rest := [.int r_2]) ⟨hx, hb, hml, hown, hts⟩ hKN (hP.sub (ws' := [(g, .inr (3, [.int g_odds, .int g_pot, .int g_lines, .int g_men, .int g_clauses, .int g_winds, .int g_far0, .int g_far1, .ref g_qsides, .ref g_qgrips, .ref g_qwits, .ref g_qsays, .ref g_qgives0, .ref g_qgives1, .ref g_qfroms, .ref g_qtos])), (g_qgives0, .inl (cA 1, 7, .inl g_cgives0)), (g_qgives1, .inl (cA 1, 7, .inl g_cgives1))]) [1, 2, 3] rfl) (g_X3_worthOf l D cA g g_odds g_pot g_lines g_men g_clauses g_winds g_far0 g_far1 g_qsides g_qgrips g_qwits g_qsays g_qgives0 g_qgives1 g_qfroms g_qtos g_cgives0 g_cgives1 p0 1 (by omega) (by omega) (by omega) (by omega) (by omega) (by omega) (by omega)) (tb_V tw_1078 tw_1079 tw_1080 tw_104 tw_1081) hdX3_worthOf ⟨rfl, rfl, Nat.le_of_ble_eq_true rfl, Nat.le_of_ble_eq_true rfl⟩ ⟨Nat.le_of_ble_eq_true rfl, Nat.le_of_ble_eq_true rfl⟩ rfl rfl rfl hl.1 rfl (Nat.le_of_ble_eq_true rfl) dX0_worthOfBoth_15 (fun r_4 hr_4 => ?_)
  refine lv_iadd hx hb dX0_worthOfBoth_18 ?_
  refine lv_topi (fun x_5 ex_5 => ?_)
  exact W.iret (v := x_5) hx hb hr (fun t ht hW => ⟨x_5, rfl, trivial, ht⟩) (fun _ h => by cases h) dX0_worthOfBoth_19
set_option maxHeartbeats 8000000 in
set_option maxRecDepth 100000 in
theorem g_X0_weighSets (l : Launch) (D : va_G) (cA : Nat → ClassId) (sz : Nat) (h0 : Nat) (b_bundlesFound : Int32) (b_firstBundle : Int32) (b_sets : Int32) (b_qlengths : Nat) (b_qworths0 : Nat) (b_qworths1 : Nat) (g : Nat) (b_clengths : Nat → Int32) (b_cworths0 : Nat → Int32) (b_cworths1 : Nat → Int32) (g_odds : Int32) (g_pot : Int32) (g_lines : Int32) (g_men : Int32) (g_clauses : Int32) (g_winds : Int32) (g_far0 : Int32) (g_far1 : Int32) (g_qsides : Nat) (g_qgrips : Nat) (g_qwits : Nat) (g_qsays : Nat) (g_qgives0 : Nat) (g_qgives1 : Nat) (g_qfroms : Nat) (g_qtos : Nat) (g_csays : Nat → Int32) (g_cgives0 : Nat → Int32) (g_cgives1 : Nat → Int32) (h_g_odds : -999 ≤ (g_odds : Int32).toInt ∧ (g_odds : Int32).toInt ≤ 999) (h_g_pot : -999 ≤ (g_pot : Int32).toInt ∧ (g_pot : Int32).toInt ≤ 999) (h_g_men : 0 ≤ (g_men : Int32).toInt ∧ (g_men : Int32).toInt ≤ 8) (h_g_clauses : 0 ≤ (g_clauses : Int32).toInt ∧ (g_clauses : Int32).toInt ≤ 7) (h_g_winds : 0 ≤ (g_winds : Int32).toInt ∧ (g_winds : Int32).toInt ≤ 4) (h_g_far0 : -999 ≤ (g_far0 : Int32).toInt ∧ (g_far0 : Int32).toInt ≤ 999) (h_g_far1 : -999 ≤ (g_far1 : Int32).toInt ∧ (g_far1 : Int32).toInt ≤ 999) : Met l yX0_weighSets (Cond.code yX0_weighSets cX0_weighSets 4 none :: TB) (rmd 2 0 0) (PM D cA sz [(h0, .inr (0, [.int b_bundlesFound, .int b_firstBundle, .int b_sets, .ref b_qlengths, .ref b_qworths0, .ref b_qworths1, .ref g])), (b_qlengths, .inl (cA 1, 128, .inl b_clengths)), (b_qworths0, .inl (cA 1, 128, .inl b_cworths0)), (b_qworths1, .inl (cA 1, 128, .inl b_cworths1)), (g, .inr (3, [.int g_odds, .int g_pot, .int g_lines, .int g_men, .int g_clauses, .int g_winds, .int g_far0, .int g_far1, .ref g_qsides, .ref g_qgrips, .ref g_qwits, .ref g_qsays, .ref g_qgives0, .ref g_qgives1, .ref g_qfroms, .ref g_qtos])), (g_qsays, .inl (cA 1, 7, .inl g_csays)), (g_qgives0, .inl (cA 1, 7, .inl g_cgives0)), (g_qgives1, .inl (cA 1, 7, .inl g_cgives1))] [.ref h0]) (va_Qv (fun (u : SU) => (1 ≤ (u.2.1 0).toInt ∧ (u.2.1 0).toInt ≤ 128)) (fun u t => va_P D vwCl [(h0, .inr (0, [.int b_bundlesFound, .int b_firstBundle, .int (u.2.1 0), .ref b_qlengths, .ref b_qworths0, .ref b_qworths1, .ref g])), (b_qlengths, .inl (cA 1, 128, .inl (u.2.2.1 0))), (b_qworths0, .inl (cA 1, 128, .inl (u.2.2.1 1))), (b_qworths1, .inl (cA 1, 128, .inl (u.2.2.1 2))), (g, .inr (3, [.int g_odds, .int g_pot, .int g_lines, .int g_men, .int g_clauses, .int g_winds, .int g_far0, .int g_far1, .ref g_qsides, .ref g_qgrips, .ref g_qwits, .ref g_qsays, .ref g_qgives0, .ref g_qgives1, .ref g_qfroms, .ref g_qtos])), (g_qsays, .inl (cA 1, 7, .inl g_csays)), (g_qgives0, .inl (cA 1, 7, .inl g_cgives0)), (g_qgives1, .inl (cA 1, 7, .inl g_cgives1))] t.heap ∧ va_D (va_A [(h0, .inr (0, [.int b_bundlesFound, .int b_firstBundle, .int b_sets, .ref b_qlengths, .ref b_qworths0, .ref b_qworths1, .ref g])), (b_qlengths, .inl (cA 1, 128, .inl b_clengths)), (b_qworths0, .inl (cA 1, 128, .inl b_cworths0)), (b_qworths1, .inl (cA 1, 128, .inl b_cworths1)), (g, .inr (3, [.int g_odds, .int g_pot, .int g_lines, .int g_men, .int g_clauses, .int g_winds, .int g_far0, .int g_far1, .ref g_qsides, .ref g_qgrips, .ref g_qwits, .ref g_qsays, .ref g_qgives0, .ref g_qgives1, .ref g_qfroms, .ref g_qtos])), (g_qsays, .inl (cA 1, 7, .inl g_csays)), (g_qgives0, .inl (cA 1, 7, .inl g_cgives0)), (g_qgives1, .inl (cA 1, 7, .inl g_cgives1))] sz) [(h0, .inr (0, [.int b_bundlesFound, .int b_firstBundle, .int (u.2.1 0), .ref b_qlengths, .ref b_qworths0, .ref b_qworths1, .ref g])), (b_qlengths, .inl (cA 1, 128, .inl (u.2.2.1 0))), (b_qworths0, .inl (cA 1, 128, .inl (u.2.2.1 1))), (b_qworths1, .inl (cA 1, 128, .inl (u.2.2.1 2))), (g, .inr (3, [.int g_odds, .int g_pot, .int g_lines, .int g_men, .int g_clauses, .int g_winds, .int g_far0, .int g_far1, .ref g_qsides, .ref g_qgrips, .ref g_qwits, .ref g_qsays, .ref g_qgives0, .ref g_qgives1, .ref g_qfroms, .ref g_qtos])), (g_qsays, .inl (cA 1, 7, .inl g_csays)), (g_qgives0, .inl (cA 1, 7, .inl g_cgives0)), (g_qgives1, .inl (cA 1, 7, .inl g_cgives1))]) (va_A [(h0, .inr (0, [.int b_bundlesFound, .int b_firstBundle, .int b_sets, .ref b_qlengths, .ref b_qworths0, .ref b_qworths1, .ref g])), (b_qlengths, .inl (cA 1, 128, .inl b_clengths)), (b_qworths0, .inl (cA 1, 128, .inl b_cworths0)), (b_qworths1, .inl (cA 1, 128, .inl b_cworths1)), (g, .inr (3, [.int g_odds, .int g_pot, .int g_lines, .int g_men, .int g_clauses, .int g_winds, .int g_far0, .int g_far1, .ref g_qsides, .ref g_qgrips, .ref g_qwits, .ref g_qsays, .ref g_qgives0, .ref g_qgives1, .ref g_qfroms, .ref g_qtos])), (g_qsays, .inl (cA 1, 7, .inl g_csays)), (g_qgives0, .inl (cA 1, 7, .inl g_cgives0)), (g_qgives1, .inl (cA 1, 7, .inl g_cgives1))] sz)) 0 0 (va_A [(h0, .inr (0, [.int b_bundlesFound, .int b_firstBundle, .int b_sets, .ref b_qlengths, .ref b_qworths0, .ref b_qworths1, .ref g])), (b_qlengths, .inl (cA 1, 128, .inl b_clengths)), (b_qworths0, .inl (cA 1, 128, .inl b_cworths0)), (b_qworths1, .inl (cA 1, 128, .inl b_cworths1)), (g, .inr (3, [.int g_odds, .int g_pot, .int g_lines, .int g_men, .int g_clauses, .int g_winds, .int g_far0, .int g_far1, .ref g_qsides, .ref g_qgrips, .ref g_qwits, .ref g_qsays, .ref g_qgives0, .ref g_qgives1, .ref g_qfroms, .ref g_qtos])), (g_qsays, .inl (cA 1, 7, .inl g_csays)), (g_qgives0, .inl (cA 1, 7, .inl g_cgives0)), (g_qgives1, .inl (cA 1, 7, .inl g_cgives1))] sz) := by
  refine Met.ofW (cc := cX0_weighSets) (maxL := 4) (ret := none) (by decide) rfl ?_
  intro p e s m args below meth c s₁ B hml hv
  obtain ⟨rfl, hsz, hP, hKN, hD0⟩ := hv
  have hx := B.exec
  have hb := B.bytes
  have hr := B.returns
  have hts : ∀ w ∈ TB, w.before _ s = true := fun w h => atoms_spec B.pre w (List.mem_cons_of_mem _ h)
  have hown : s.vm.findClass RX0 = some m.cls := findClass_of_methodNamed B.named
  have hlocks := B.notSynchronized
  subst hsz
  have hD := hD0.self (sz := s.heap.size)
  generalize hAe : va_A [(h0, .inr (0, [.int b_bundlesFound, .int b_firstBundle, .int b_sets, .ref b_qlengths, .ref b_qworths0, .ref b_qworths1, .ref g])), (b_qlengths, .inl (cA 1, 128, .inl b_clengths)), (b_qworths0, .inl (cA 1, 128, .inl b_cworths0)), (b_qworths1, .inl (cA 1, 128, .inl b_cworths1)), (g, .inr (3, [.int g_odds, .int g_pot, .int g_lines, .int g_men, .int g_clauses, .int g_winds, .int g_far0, .int g_far1, .ref g_qsides, .ref g_qgrips, .ref g_qwits, .ref g_qsays, .ref g_qgives0, .ref g_qgives1, .ref g_qfroms, .ref g_qtos])), (g_qsays, .inl (cA 1, 7, .inl g_csays)), (g_qgives0, .inl (cA 1, 7, .inl g_cgives0)), (g_qgives1, .inl (cA 1, 7, .inl g_cgives1))] s.heap.size = A at hD ⊢
  have hA : ∀ q : Nat, s.heap.size ≤ q → A q := fun q h => by rw [← hAe]; exact Or.inr h
  have hS : va_S A s.heap s.heap [] := va_S.rf
  have hl := lv_entry ([.ref h0]) (n := 4) (Nat.le_of_ble_eq_true rfl)
  rw [lg_entry_eq]
  generalize (lg_sl ([.ref h0]) ++ List.replicate (4 - (lg_sl ([.ref h0])).length) Slot.unset).toArray = ls at hl ⊢
  have hl : lv_has ls 4 [(0, .ref h0)] := hl
  refine lv_aload_n hx hb dX0_weighSets_0 rfl (lv_at hl 0 rfl) ?_
  refine lv_sipush (v := 128) hx hb dX0_weighSets_1 (by decide) ?_
  refine lv_aload_n hx hb dX0_weighSets_4 rfl (lv_at hl 0 rfl) ?_
  refine va_get (D := D) (ci := 0) (v := .ref g) (C := RX0) (T := TX0) (N := 7) hx hb hts inX0 hown hKN.1 hP 0 rfl rfl 6 (by decide) (hts _ tw_425) (fun _ h9 => h9) rfl dX0_weighSets_5 ?_
  refine cpVi (rest := [.int 128, .ref h0]) ⟨hx, hb, hml, hown, hts⟩ hKN (hP.sub (ws' := [(g, .inr (3, [.int g_odds, .int g_pot, .int g_lines, .int g_men, .int g_clauses, .int g_winds, .int g_far0, .int g_far1, .ref g_qsides, .ref g_qgrips, .ref g_qwits, .ref g_qsays, .ref g_qgives0, .ref g_qgives1, .ref g_qfroms, .ref g_qtos]))]) [4] rfl) (g_X3_allClauses l D cA g g_odds g_pot g_lines g_men g_clauses g_winds g_far0 g_far1 g_qsides g_qgrips g_qwits g_qsays g_qgives0 g_qgives1 g_qfroms g_qtos (by omega) (by omega) (by omega) (by omega) (by omega) (by omega) (by omega)) (tb_V tw_1051 tw_1001 tw_1002 tw_104 tw_1003) hdX3_allClauses ⟨rfl, rfl, Nat.le_of_ble_eq_true rfl, Nat.le_of_ble_eq_true rfl⟩ ⟨Nat.le_of_ble_eq_true rfl, Nat.le_of_ble_eq_true rfl⟩ rfl rfl rfl hl.1 rfl (Nat.le_of_ble_eq_true rfl) dX0_weighSets_8 (fun r_1 hr_1 => ?_)
  refine lv_iconst (v := 1) hx hb dX0_weighSets_11 (by decide) ?_
  refine lv_iadd hx hb dX0_weighSets_12 ?_
  refine lv_topi (fun x_2 ex_2 => ?_)
  have k_3 := ar_add rfl zi_1 ex_2 (by omega) (by omega)
  have z_4 := zi_128
  refine cpSi (rest := [.ref h0]) ⟨hx, hb, hml, hown, hts⟩ hKN (hP.sub (ws' := []) [] rfl) (g_J9_min_7cf53 l D cA 128 x_2) (tb_S tw_1052 tw_555 tw_115 tw_556) hdJ9_min_7cf53 ⟨rfl, rfl, Nat.le_of_ble_eq_true rfl, Nat.le_of_ble_eq_true rfl⟩ ⟨Nat.le_of_ble_eq_true rfl, Nat.le_of_ble_eq_true rfl⟩ rfl hl.1 rfl (Nat.le_of_ble_eq_true rfl) dX0_weighSets_13 (fun r_5 hr_5 => ?_)
  obtain ⟨k_5_0_0, k_5_0_1, k_5_0_2⟩ := hr_5
  refine va_put (D := D) (ci := 0) (v := .int r_5) (ty := .int) (C := RX0) (T := TX0) (N := 7) hx hb hts inX0 tyX0 tyX0_ok nmX0 hown hKN.1 hP hD hS 0 rfl rfl 2 (by decide) (hts _ tw_421) (fun _ h9 => h9) rfl (by decide +kernel) rfl rfl (Nat.le_of_ble_eq_true rfl) dX0_weighSets_16 (fun H locs hP hD hS => ?_)
  have hP : va_P D vwCl [(h0, .inr (0, [.int b_bundlesFound, .int b_firstBundle, .int r_5, .ref b_qlengths, .ref b_qworths0, .ref b_qworths1, .ref g])), (b_qlengths, .inl (cA 1, 128, .inl b_clengths)), (b_qworths0, .inl (cA 1, 128, .inl b_cworths0)), (b_qworths1, .inl (cA 1, 128, .inl b_cworths1)), (g, .inr (3, [.int g_odds, .int g_pot, .int g_lines, .int g_men, .int g_clauses, .int g_winds, .int g_far0, .int g_far1, .ref g_qsides, .ref g_qgrips, .ref g_qwits, .ref g_qsays, .ref g_qgives0, .ref g_qgives1, .ref g_qfroms, .ref g_qtos])), (g_qsays, .inl (cA 1, 7, .inl g_csays)), (g_qgives0, .inl (cA 1, 7, .inl g_cgives0)), (g_qgives1, .inl (cA 1, 7, .inl g_cgives1))] H := hP
  have hD : va_D A [(h0, .inr (0, [.int b_bundlesFound, .int b_firstBundle, .int r_5, .ref b_qlengths, .ref b_qworths0, .ref b_qworths1, .ref g])), (b_qlengths, .inl (cA 1, 128, .inl b_clengths)), (b_qworths0, .inl (cA 1, 128, .inl b_cworths0)), (b_qworths1, .inl (cA 1, 128, .inl b_cworths1)), (g, .inr (3, [.int g_odds, .int g_pot, .int g_lines, .int g_men, .int g_clauses, .int g_winds, .int g_far0, .int g_far1, .ref g_qsides, .ref g_qgrips, .ref g_qwits, .ref g_qsays, .ref g_qgives0, .ref g_qgives1, .ref g_qfroms, .ref g_qtos])), (g_qsays, .inl (cA 1, 7, .inl g_csays)), (g_qgives0, .inl (cA 1, 7, .inl g_cgives0)), (g_qgives1, .inl (cA 1, 7, .inl g_cgives1))] := hD
  refine lv_iconst (v := 0) hx hb dX0_weighSets_19 (by decide) ?_
  refine lv_istore_n (lv' := [(1, .int 0), (0, .ref h0)]) hx hb dX0_weighSets_20 rfl hl (by decide) rfl (fun ls hl => ?_)
  refine loopW (σ := Int32 × (Nat → Int32) × (Nat → Int32) × (Nat → Int32)) (fun _ => []) (fun ⟨L1_1142, F1_1142, F2_1142, F3_1142⟩ H locs ls => (0 ≤ L1_1142.toInt ∧ L1_1142.toInt ≤ 7) ∧ va_P D vwCl [(h0, .inr (0, [.int b_bundlesFound, .int b_firstBundle, .int r_5, .ref b_qlengths, .ref b_qworths0, .ref b_qworths1, .ref g])), (b_qlengths, .inl (cA 1, 128, .inl F1_1142)), (b_qworths0, .inl (cA 1, 128, .inl F2_1142)), (b_qworths1, .inl (cA 1, 128, .inl F3_1142)), (g, .inr (3, [.int g_odds, .int g_pot, .int g_lines, .int g_men, .int g_clauses, .int g_winds, .int g_far0, .int g_far1, .ref g_qsides, .ref g_qgrips, .ref g_qwits, .ref g_qsays, .ref g_qgives0, .ref g_qgives1, .ref g_qfroms, .ref g_qtos])), (g_qsays, .inl (cA 1, 7, .inl g_csays)), (g_qgives0, .inl (cA 1, 7, .inl g_cgives0)), (g_qgives1, .inl (cA 1, 7, .inl g_cgives1))] H ∧ va_D A [(h0, .inr (0, [.int b_bundlesFound, .int b_firstBundle, .int r_5, .ref b_qlengths, .ref b_qworths0, .ref b_qworths1, .ref g])), (b_qlengths, .inl (cA 1, 128, .inl F1_1142)), (b_qworths0, .inl (cA 1, 128, .inl F2_1142)), (b_qworths1, .inl (cA 1, 128, .inl F3_1142)), (g, .inr (3, [.int g_odds, .int g_pot, .int g_lines, .int g_men, .int g_clauses, .int g_winds, .int g_far0, .int g_far1, .ref g_qsides, .ref g_qgrips, .ref g_qwits, .ref g_qsays, .ref g_qgives0, .ref g_qgives1, .ref g_qfroms, .ref g_qtos])), (g_qsays, .inl (cA 1, 7, .inl g_csays)), (g_qgives0, .inl (cA 1, 7, .inl g_cgives0)), (g_qgives1, .inl (cA 1, 7, .inl g_cgives1))] ∧ va_S A s.heap H locs ∧ lv_has ls 4 [(1, .int L1_1142), (0, .ref h0)]) (fun ⟨L1_1142, F1_1142, F2_1142, F3_1142⟩ => (2147483647 - L1_1142.toInt).toNat) ?_ ((0, b_clengths, b_cworths0, b_cworths1) : Int32 × (Nat → Int32) × (Nat → Int32) × (Nat → Int32)) ⟨(by decide), hP, hD, hS, hl⟩
  intro x_1142 H locs ls hI_1142 ih_1142
  obtain ⟨L1_1142, F1_1142, F2_1142, F3_1142⟩ := x_1142
  obtain ⟨k0_1142, hP, hD, hS, hl⟩ := hI_1142
  have hP : va_P D vwCl [(h0, .inr (0, [.int b_bundlesFound, .int b_firstBundle, .int r_5, .ref b_qlengths, .ref b_qworths0, .ref b_qworths1, .ref g])), (b_qlengths, .inl (cA 1, 128, .inl F1_1142)), (b_qworths0, .inl (cA 1, 128, .inl F2_1142)), (b_qworths1, .inl (cA 1, 128, .inl F3_1142)), (g, .inr (3, [.int g_odds, .int g_pot, .int g_lines, .int g_men, .int g_clauses, .int g_winds, .int g_far0, .int g_far1, .ref g_qsides, .ref g_qgrips, .ref g_qwits, .ref g_qsays, .ref g_qgives0, .ref g_qgives1, .ref g_qfroms, .ref g_qtos])), (g_qsays, .inl (cA 1, 7, .inl g_csays)), (g_qgives0, .inl (cA 1, 7, .inl g_cgives0)), (g_qgives1, .inl (cA 1, 7, .inl g_cgives1))] H := hP
  have hD : va_D A [(h0, .inr (0, [.int b_bundlesFound, .int b_firstBundle, .int r_5, .ref b_qlengths, .ref b_qworths0, .ref b_qworths1, .ref g])), (b_qlengths, .inl (cA 1, 128, .inl F1_1142)), (b_qworths0, .inl (cA 1, 128, .inl F2_1142)), (b_qworths1, .inl (cA 1, 128, .inl F3_1142)), (g, .inr (3, [.int g_odds, .int g_pot, .int g_lines, .int g_men, .int g_clauses, .int g_winds, .int g_far0, .int g_far1, .ref g_qsides, .ref g_qgrips, .ref g_qwits, .ref g_qsays, .ref g_qgives0, .ref g_qgives1, .ref g_qfroms, .ref g_qtos])), (g_qsays, .inl (cA 1, 7, .inl g_csays)), (g_qgives0, .inl (cA 1, 7, .inl g_cgives0)), (g_qgives1, .inl (cA 1, 7, .inl g_cgives1))] := hD
  have hl : lv_has ls 4 [(1, .int L1_1142), (0, .ref h0)] := hl
  refine lv_iload_n hx hb dX0_weighSets_21 rfl (lv_at hl 0 rfl) ?_
  refine lv_aload_n hx hb dX0_weighSets_22 rfl (lv_at hl 1 rfl) ?_
  refine va_get (D := D) (ci := 0) (v := .ref g) (C := RX0) (T := TX0) (N := 7) hx hb hts inX0 hown hKN.1 hP 0 rfl rfl 6 (by decide) (hts _ tw_425) (fun _ h9 => h9) rfl dX0_weighSets_23 ?_
  refine va_get (D := D) (ci := 3) (v := .int g_clauses) (C := RX3) (T := TX3) (N := 16) hx hb hts inX3 hown hKN.1 hP 4 rfl rfl 4 (by decide) (hts _ tw_174) (fun _ h9 => h9) rfl dX0_weighSets_26 ?_
  refine lv_icmp_ge (tgt := 135) hx hb dX0_weighSets_29 (by decide) (fun c_1143 => ?_) (fun c_1143 => ?_)
  · skip
    have k_1144 := kk_le rfl rfl c_1143
    have hP9 := hP.sub (ws' := [(h0, .inr (0, [.int b_bundlesFound, .int b_firstBundle, .int r_5, .ref b_qlengths, .ref b_qworths0, .ref b_qworths1, .ref g])), (b_qlengths, .inl (cA 1, 128, .inl F1_1142)), (b_qworths0, .inl (cA 1, 128, .inl F2_1142)), (b_qworths1, .inl (cA 1, 128, .inl F3_1142)), (g, .inr (3, [.int g_odds, .int g_pot, .int g_lines, .int g_men, .int g_clauses, .int g_winds, .int g_far0, .int g_far1, .ref g_qsides, .ref g_qgrips, .ref g_qwits, .ref g_qsays, .ref g_qgives0, .ref g_qgives1, .ref g_qfroms, .ref g_qtos])), (g_qsays, .inl (cA 1, 7, .inl g_csays)), (g_qgives0, .inl (cA 1, 7, .inl g_cgives0)), (g_qgives1, .inl (cA 1, 7, .inl g_cgives1))]) [0, 1, 2, 3, 4, 5, 6, 7] rfl
    have hD9 := hD.sub (ws' := [(h0, .inr (0, [.int b_bundlesFound, .int b_firstBundle, .int r_5, .ref b_qlengths, .ref b_qworths0, .ref b_qworths1, .ref g])), (b_qlengths, .inl (cA 1, 128, .inl F1_1142)), (b_qworths0, .inl (cA 1, 128, .inl F2_1142)), (b_qworths1, .inl (cA 1, 128, .inl F3_1142)), (g, .inr (3, [.int g_odds, .int g_pot, .int g_lines, .int g_men, .int g_clauses, .int g_winds, .int g_far0, .int g_far1, .ref g_qsides, .ref g_qgrips, .ref g_qwits, .ref g_qsays, .ref g_qgives0, .ref g_qgives1, .ref g_qfroms, .ref g_qtos])), (g_qsays, .inl (cA 1, 7, .inl g_csays)), (g_qgives0, .inl (cA 1, 7, .inl g_cgives0)), (g_qgives1, .inl (cA 1, 7, .inl g_cgives1))]) [0, 1, 2, 3, 4, 5, 6, 7] (by decide) rfl
    exact W.vret hx hb hr (fun t ht hW => ⟨⟨((fun _ => 0), (selI [r_5]), (selF [F1_1142, F2_1142, F3_1142]), (fun _ _ => 0)), rfl, (show 1 ≤ r_5.toInt ∧ r_5.toInt ≤ 128 from by omega), by rw [ht]; exact hP9, hD9⟩, hS.F ht⟩) hS.2.2 dX0_weighSets_135
  · skip
    have k_1145 := kk_nle rfl rfl c_1143
    refine lv_iconst (v := 1) hx hb dX0_weighSets_32 (by decide) ?_
    refine lv_iload_n hx hb dX0_weighSets_33 rfl (lv_at hl 0 rfl) ?_
    refine lv_ishl hx hb dX0_weighSets_34 ?_
    refine lv_topi (fun x_1146 ex_1146 => ?_)
    have k_1147 := ar_shl1 ex_1146 (by omega) (by omega)
    refine lv_istore_n (lv' := [(2, .int x_1146), (1, .int L1_1142), (0, .ref h0)]) hx hb dX0_weighSets_35 rfl hl (by decide) rfl (fun ls hl => ?_)
    refine lv_iload_n hx hb dX0_weighSets_36 rfl (lv_at hl 0 rfl) ?_
    refine lv_istore_n (lv' := [(3, .int x_1146), (2, .int x_1146), (1, .int L1_1142), (0, .ref h0)]) hx hb dX0_weighSets_37 rfl hl (by decide) rfl (fun ls hl => ?_)
    refine loopW (σ := Int32 × (Nat → Int32) × (Nat → Int32) × (Nat → Int32)) (fun _ => []) (fun ⟨L3_1340, F1_1340, F2_1340, F3_1340⟩ H locs ls => (1 ≤ L3_1340.toInt ∧ L3_1340.toInt ≤ 128) ∧ (x_1146.toInt ≤ L3_1340.toInt) ∧ va_P D vwCl [(h0, .inr (0, [.int b_bundlesFound, .int b_firstBundle, .int r_5, .ref b_qlengths, .ref b_qworths0, .ref b_qworths1, .ref g])), (b_qlengths, .inl (cA 1, 128, .inl F1_1340)), (b_qworths0, .inl (cA 1, 128, .inl F2_1340)), (b_qworths1, .inl (cA 1, 128, .inl F3_1340)), (g, .inr (3, [.int g_odds, .int g_pot, .int g_lines, .int g_men, .int g_clauses, .int g_winds, .int g_far0, .int g_far1, .ref g_qsides, .ref g_qgrips, .ref g_qwits, .ref g_qsays, .ref g_qgives0, .ref g_qgives1, .ref g_qfroms, .ref g_qtos])), (g_qsays, .inl (cA 1, 7, .inl g_csays)), (g_qgives0, .inl (cA 1, 7, .inl g_cgives0)), (g_qgives1, .inl (cA 1, 7, .inl g_cgives1))] H ∧ va_D A [(h0, .inr (0, [.int b_bundlesFound, .int b_firstBundle, .int r_5, .ref b_qlengths, .ref b_qworths0, .ref b_qworths1, .ref g])), (b_qlengths, .inl (cA 1, 128, .inl F1_1340)), (b_qworths0, .inl (cA 1, 128, .inl F2_1340)), (b_qworths1, .inl (cA 1, 128, .inl F3_1340)), (g, .inr (3, [.int g_odds, .int g_pot, .int g_lines, .int g_men, .int g_clauses, .int g_winds, .int g_far0, .int g_far1, .ref g_qsides, .ref g_qgrips, .ref g_qwits, .ref g_qsays, .ref g_qgives0, .ref g_qgives1, .ref g_qfroms, .ref g_qtos])), (g_qsays, .inl (cA 1, 7, .inl g_csays)), (g_qgives0, .inl (cA 1, 7, .inl g_cgives0)), (g_qgives1, .inl (cA 1, 7, .inl g_cgives1))] ∧ va_S A s.heap H locs ∧ lv_has ls 4 [(3, .int L3_1340), (2, .int x_1146), (1, .int L1_1142), (0, .ref h0)]) (fun ⟨L3_1340, F1_1340, F2_1340, F3_1340⟩ => (2147483647 - L3_1340.toInt).toNat) ?_ ((x_1146, F1_1142, F2_1142, F3_1142) : Int32 × (Nat → Int32) × (Nat → Int32) × (Nat → Int32)) ⟨(show 1 ≤ x_1146.toInt ∧ x_1146.toInt ≤ 128 from by omega), (show x_1146.toInt ≤ x_1146.toInt from by first | omega | decide), hP, hD, hS, hl⟩
    intro x_1340 H locs ls hI_1340 ih_1340
    obtain ⟨L3_1340, F1_1340, F2_1340, F3_1340⟩ := x_1340
    obtain ⟨k0_1340, k1_1340, hP, hD, hS, hl⟩ := hI_1340
    have hP : va_P D vwCl [(h0, .inr (0, [.int b_bundlesFound, .int b_firstBundle, .int r_5, .ref b_qlengths, .ref b_qworths0, .ref b_qworths1, .ref g])), (b_qlengths, .inl (cA 1, 128, .inl F1_1340)), (b_qworths0, .inl (cA 1, 128, .inl F2_1340)), (b_qworths1, .inl (cA 1, 128, .inl F3_1340)), (g, .inr (3, [.int g_odds, .int g_pot, .int g_lines, .int g_men, .int g_clauses, .int g_winds, .int g_far0, .int g_far1, .ref g_qsides, .ref g_qgrips, .ref g_qwits, .ref g_qsays, .ref g_qgives0, .ref g_qgives1, .ref g_qfroms, .ref g_qtos])), (g_qsays, .inl (cA 1, 7, .inl g_csays)), (g_qgives0, .inl (cA 1, 7, .inl g_cgives0)), (g_qgives1, .inl (cA 1, 7, .inl g_cgives1))] H := hP
    have hD : va_D A [(h0, .inr (0, [.int b_bundlesFound, .int b_firstBundle, .int r_5, .ref b_qlengths, .ref b_qworths0, .ref b_qworths1, .ref g])), (b_qlengths, .inl (cA 1, 128, .inl F1_1340)), (b_qworths0, .inl (cA 1, 128, .inl F2_1340)), (b_qworths1, .inl (cA 1, 128, .inl F3_1340)), (g, .inr (3, [.int g_odds, .int g_pot, .int g_lines, .int g_men, .int g_clauses, .int g_winds, .int g_far0, .int g_far1, .ref g_qsides, .ref g_qgrips, .ref g_qwits, .ref g_qsays, .ref g_qgives0, .ref g_qgives1, .ref g_qfroms, .ref g_qtos])), (g_qsays, .inl (cA 1, 7, .inl g_csays)), (g_qgives0, .inl (cA 1, 7, .inl g_cgives0)), (g_qgives1, .inl (cA 1, 7, .inl g_cgives1))] := hD
    have hl : lv_has ls 4 [(3, .int L3_1340), (2, .int x_1146), (1, .int L1_1142), (0, .ref h0)] := hl
    refine lv_iload_n hx hb dX0_weighSets_38 rfl (lv_at hl 0 rfl) ?_
    refine lv_iconst (v := 2) hx hb dX0_weighSets_39 (by decide) ?_
    refine lv_iload_n hx hb dX0_weighSets_40 rfl (lv_at hl 1 rfl) ?_
    refine lv_imul hx hb dX0_weighSets_41 ?_
    refine lv_topi (fun x_1341 ex_1341 => ?_)
    have k_1342 := ar_mul zi_2 rfl ex_1341 (by omega) (by omega)
    refine lv_icmp_ge (tgt := 129) hx hb dX0_weighSets_42 (by decide) (fun c_1343 => ?_) (fun c_1343 => ?_)
    · skip
      have k_1344 := kk_le rfl rfl c_1343
      obtain ⟨x_1345, ex_1345⟩ : ∃ y : Int32, L1_1142 + Int32.ofInt 1 = y := ⟨_, rfl⟩
      have k_1346 := ar_add (b := 1) rfl zi_1 ex_1345.symm (by omega) (by omega)
      refine lv_iinc (v := x_1345) (lv' := [(1, .int x_1345), (3, .int L3_1340), (2, .int x_1146), (0, .ref h0)]) hx hb dX0_weighSets_129 hl (k := 2) rfl ex_1345 (by decide) rfl (fun ls hl => ?_)
      refine lv_goto (tgt := 21) hx hb dX0_weighSets_132 (by decide) ?_
      exact ih_1142 (x_1345, F1_1340, F2_1340, F3_1340) _ _ _ ⟨(show 0 ≤ x_1345.toInt ∧ x_1345.toInt ≤ 7 from by omega), hP.sub [0, 1, 2, 3, 4, 5, 6, 7] rfl, hD.sub [0, 1, 2, 3, 4, 5, 6, 7] (by decide) rfl, hS, lv_sub hl [0, 3] rfl⟩ (by show (2147483647 - x_1345.toInt).toNat < (2147483647 - L1_1142.toInt).toNat; omega)
    · skip
      have k_1347 := kk_nle rfl rfl c_1343
      refine lv_iload_n hx hb dX0_weighSets_45 rfl (lv_at hl 0 rfl) ?_
      refine lv_sipush (v := 128) hx hb dX0_weighSets_46 (by decide) ?_
      refine lv_icmp_ge (tgt := 129) hx hb dX0_weighSets_49 (by decide) (fun c_1348 => ?_) (fun c_1348 => ?_)
      · skip
        have k_1349 := kk_le zi_128 rfl c_1348
        exfalso; omega
      · skip
        have k_1350 := kk_nle zi_128 rfl c_1348
        refine lv_aload_n hx hb dX0_weighSets_52 rfl (lv_at hl 3 rfl) ?_
        refine va_get (D := D) (ci := 0) (v := .ref b_qlengths) (C := RX0) (T := TX0) (N := 7) hx hb hts inX0 hown hKN.1 hP 0 rfl rfl 3 (by decide) (hts _ tw_422) (fun _ h9 => h9) rfl dX0_weighSets_53 ?_
        refine lv_iload_n hx hb dX0_weighSets_56 rfl (lv_at hl 0 rfl) ?_
        refine lv_aload_n hx hb dX0_weighSets_57 rfl (lv_at hl 3 rfl) ?_
        refine va_get (D := D) (ci := 0) (v := .ref b_qlengths) (C := RX0) (T := TX0) (N := 7) hx hb hts inX0 hown hKN.1 hP 0 rfl rfl 3 (by decide) (hts _ tw_422) (fun _ h9 => h9) rfl dX0_weighSets_58 ?_
        refine lv_iload_n hx hb dX0_weighSets_61 rfl (lv_at hl 0 rfl) ?_
        refine lv_iload_n hx hb dX0_weighSets_62 rfl (lv_at hl 1 rfl) ?_
        refine lv_isub hx hb dX0_weighSets_63 ?_
        refine lv_topi (fun x_1351 ex_1351 => ?_)
        have k_1352 := ar_sub rfl rfl ex_1351 (by omega) (by omega)
        refine va_iald hx hb hKN.1 hP 1 1 rfl rfl (vp_in_iff.mpr ⟨by omega, by omega⟩) dX0_weighSets_64 ?_
        refine lv_topi (fun x_1353 ex_1353 => ?_)
        refine lv_aload_n hx hb dX0_weighSets_65 rfl (lv_at hl 3 rfl) ?_
        refine va_get (D := D) (ci := 0) (v := .ref g) (C := RX0) (T := TX0) (N := 7) hx hb hts inX0 hown hKN.1 hP 0 rfl rfl 6 (by decide) (hts _ tw_425) (fun _ h9 => h9) rfl dX0_weighSets_66 ?_
        refine lv_iload_n hx hb dX0_weighSets_69 rfl (lv_at hl 2 rfl) ?_
        refine cpVi (rest := [.int x_1353, .int L3_1340, .ref b_qlengths]) ⟨hx, hb, hml, hown, hts⟩ hKN (hP.sub (ws' := [(g, .inr (3, [.int g_odds, .int g_pot, .int g_lines, .int g_men, .int g_clauses, .int g_winds, .int g_far0, .int g_far1, .ref g_qsides, .ref g_qgrips, .ref g_qwits, .ref g_qsays, .ref g_qgives0, .ref g_qgives1, .ref g_qfroms, .ref g_qtos])), (g_qsays, .inl (cA 1, 7, .inl g_csays))]) [4, 5] rfl) (g_X3_lengthOf l D cA g g_odds g_pot g_lines g_men g_clauses g_winds g_far0 g_far1 g_qsides g_qgrips g_qwits g_qsays g_qgives0 g_qgives1 g_qfroms g_qtos g_csays L1_1142 (by omega) (by omega) (by omega) (by omega) (by omega) (by omega) (by omega)) (tb_V tw_1053 tw_724 tw_725 tw_104 tw_726) hdX3_lengthOf ⟨rfl, rfl, Nat.le_of_ble_eq_true rfl, Nat.le_of_ble_eq_true rfl⟩ ⟨Nat.le_of_ble_eq_true rfl, Nat.le_of_ble_eq_true rfl⟩ rfl rfl rfl hl.1 rfl (Nat.le_of_ble_eq_true rfl) dX0_weighSets_70 (fun r_1354 hr_1354 => ?_)
        refine lv_iadd hx hb dX0_weighSets_73 ?_
        refine lv_topi (fun x_1355 ex_1355 => ?_)
        refine va_iast hx hb hKN.1 hP hD hS 1 1 rfl rfl (vp_in_iff.mpr ⟨by omega, by omega⟩) dX0_weighSets_74 (fun H locs hP hD hS => ?_)
        have hP : va_P D vwCl [(h0, .inr (0, [.int b_bundlesFound, .int b_firstBundle, .int r_5, .ref b_qlengths, .ref b_qworths0, .ref b_qworths1, .ref g])), (b_qlengths, .inl (cA 1, 128, .inl (upd F1_1340 L3_1340.toNatClampNeg x_1355))), (b_qworths0, .inl (cA 1, 128, .inl F2_1340)), (b_qworths1, .inl (cA 1, 128, .inl F3_1340)), (g, .inr (3, [.int g_odds, .int g_pot, .int g_lines, .int g_men, .int g_clauses, .int g_winds, .int g_far0, .int g_far1, .ref g_qsides, .ref g_qgrips, .ref g_qwits, .ref g_qsays, .ref g_qgives0, .ref g_qgives1, .ref g_qfroms, .ref g_qtos])), (g_qsays, .inl (cA 1, 7, .inl g_csays)), (g_qgives0, .inl (cA 1, 7, .inl g_cgives0)), (g_qgives1, .inl (cA 1, 7, .inl g_cgives1))] H := hP
        have hD : va_D A [(h0, .inr (0, [.int b_bundlesFound, .int b_firstBundle, .int r_5, .ref b_qlengths, .ref b_qworths0, .ref b_qworths1, .ref g])), (b_qlengths, .inl (cA 1, 128, .inl (upd F1_1340 L3_1340.toNatClampNeg x_1355))), (b_qworths0, .inl (cA 1, 128, .inl F2_1340)), (b_qworths1, .inl (cA 1, 128, .inl F3_1340)), (g, .inr (3, [.int g_odds, .int g_pot, .int g_lines, .int g_men, .int g_clauses, .int g_winds, .int g_far0, .int g_far1, .ref g_qsides, .ref g_qgrips, .ref g_qwits, .ref g_qsays, .ref g_qgives0, .ref g_qgives1, .ref g_qfroms, .ref g_qtos])), (g_qsays, .inl (cA 1, 7, .inl g_csays)), (g_qgives0, .inl (cA 1, 7, .inl g_cgives0)), (g_qgives1, .inl (cA 1, 7, .inl g_cgives1))] := hD
        generalize ef_1357 : (upd F1_1340 L3_1340.toNatClampNeg x_1355) = f_1357 at hP hD
        refine lv_aload_n hx hb dX0_weighSets_75 rfl (lv_at hl 3 rfl) ?_
        refine va_get (D := D) (ci := 0) (v := .ref b_qworths0) (C := RX0) (T := TX0) (N := 7) hx hb hts inX0 hown hKN.1 hP 0 rfl rfl 4 (by decide) (hts _ tw_423) (fun _ h9 => h9) rfl dX0_weighSets_76 ?_
        refine lv_iload_n hx hb dX0_weighSets_79 rfl (lv_at hl 0 rfl) ?_
        refine lv_aload_n hx hb dX0_weighSets_80 rfl (lv_at hl 3 rfl) ?_
        refine va_get (D := D) (ci := 0) (v := .ref b_qworths0) (C := RX0) (T := TX0) (N := 7) hx hb hts inX0 hown hKN.1 hP 0 rfl rfl 4 (by decide) (hts _ tw_423) (fun _ h9 => h9) rfl dX0_weighSets_81 ?_
        refine lv_iload_n hx hb dX0_weighSets_84 rfl (lv_at hl 0 rfl) ?_
        refine lv_iload_n hx hb dX0_weighSets_85 rfl (lv_at hl 1 rfl) ?_
        refine lv_isub hx hb dX0_weighSets_86 ?_
        refine lv_topi (fun x_1358 ex_1358 => ?_)
        obtain rfl : x_1351 = x_1358 := ex_1351.trans ex_1358.symm
        refine va_iald hx hb hKN.1 hP 2 1 rfl rfl (vp_in_iff.mpr ⟨by omega, by omega⟩) dX0_weighSets_87 ?_
        refine lv_topi (fun x_1359 ex_1359 => ?_)
        refine lv_aload_n hx hb dX0_weighSets_88 rfl (lv_at hl 3 rfl) ?_
        refine va_get (D := D) (ci := 0) (v := .ref g) (C := RX0) (T := TX0) (N := 7) hx hb hts inX0 hown hKN.1 hP 0 rfl rfl 6 (by decide) (hts _ tw_425) (fun _ h9 => h9) rfl dX0_weighSets_89 ?_
        refine lv_iload_n hx hb dX0_weighSets_92 rfl (lv_at hl 2 rfl) ?_
        refine lv_iconst (v := 0) hx hb dX0_weighSets_93 (by decide) ?_
        have z_1360 := zi_0
        refine cpVi (rest := [.int x_1359, .int L3_1340, .ref b_qworths0]) ⟨hx, hb, hml, hown, hts⟩ hKN (hP.sub (ws' := [(g, .inr (3, [.int g_odds, .int g_pot, .int g_lines, .int g_men, .int g_clauses, .int g_winds, .int g_far0, .int g_far1, .ref g_qsides, .ref g_qgrips, .ref g_qwits, .ref g_qsays, .ref g_qgives0, .ref g_qgives1, .ref g_qfroms, .ref g_qtos])), (g_qgives0, .inl (cA 1, 7, .inl g_cgives0)), (g_qgives1, .inl (cA 1, 7, .inl g_cgives1))]) [4, 6, 7] rfl) (g_X3_giftOf l D cA g g_odds g_pot g_lines g_men g_clauses g_winds g_far0 g_far1 g_qsides g_qgrips g_qwits g_qsays g_qgives0 g_qgives1 g_qfroms g_qtos g_cgives0 g_cgives1 L1_1142 0 (by omega) (by omega) (by omega) (by omega) (by omega) (by omega) (by omega)) (tb_V tw_1054 tw_729 tw_730 tw_104 tw_731) hdX3_giftOf ⟨rfl, rfl, Nat.le_of_ble_eq_true rfl, Nat.le_of_ble_eq_true rfl⟩ ⟨Nat.le_of_ble_eq_true rfl, Nat.le_of_ble_eq_true rfl⟩ rfl rfl rfl hl.1 rfl (Nat.le_of_ble_eq_true rfl) dX0_weighSets_94 (fun r_1361 hr_1361 => ?_)
        refine lv_iadd hx hb dX0_weighSets_97 ?_
        refine lv_topi (fun x_1362 ex_1362 => ?_)
        refine va_iast hx hb hKN.1 hP hD hS 2 1 rfl rfl (vp_in_iff.mpr ⟨by omega, by omega⟩) dX0_weighSets_98 (fun H locs hP hD hS => ?_)
        have hP : va_P D vwCl [(h0, .inr (0, [.int b_bundlesFound, .int b_firstBundle, .int r_5, .ref b_qlengths, .ref b_qworths0, .ref b_qworths1, .ref g])), (b_qlengths, .inl (cA 1, 128, .inl f_1357)), (b_qworths0, .inl (cA 1, 128, .inl (upd F2_1340 L3_1340.toNatClampNeg x_1362))), (b_qworths1, .inl (cA 1, 128, .inl F3_1340)), (g, .inr (3, [.int g_odds, .int g_pot, .int g_lines, .int g_men, .int g_clauses, .int g_winds, .int g_far0, .int g_far1, .ref g_qsides, .ref g_qgrips, .ref g_qwits, .ref g_qsays, .ref g_qgives0, .ref g_qgives1, .ref g_qfroms, .ref g_qtos])), (g_qsays, .inl (cA 1, 7, .inl g_csays)), (g_qgives0, .inl (cA 1, 7, .inl g_cgives0)), (g_qgives1, .inl (cA 1, 7, .inl g_cgives1))] H := hP
        have hD : va_D A [(h0, .inr (0, [.int b_bundlesFound, .int b_firstBundle, .int r_5, .ref b_qlengths, .ref b_qworths0, .ref b_qworths1, .ref g])), (b_qlengths, .inl (cA 1, 128, .inl f_1357)), (b_qworths0, .inl (cA 1, 128, .inl (upd F2_1340 L3_1340.toNatClampNeg x_1362))), (b_qworths1, .inl (cA 1, 128, .inl F3_1340)), (g, .inr (3, [.int g_odds, .int g_pot, .int g_lines, .int g_men, .int g_clauses, .int g_winds, .int g_far0, .int g_far1, .ref g_qsides, .ref g_qgrips, .ref g_qwits, .ref g_qsays, .ref g_qgives0, .ref g_qgives1, .ref g_qfroms, .ref g_qtos])), (g_qsays, .inl (cA 1, 7, .inl g_csays)), (g_qgives0, .inl (cA 1, 7, .inl g_cgives0)), (g_qgives1, .inl (cA 1, 7, .inl g_cgives1))] := hD
        generalize ef_1364 : (upd F2_1340 L3_1340.toNatClampNeg x_1362) = f_1364 at hP hD
        refine lv_aload_n hx hb dX0_weighSets_99 rfl (lv_at hl 3 rfl) ?_
        refine va_get (D := D) (ci := 0) (v := .ref b_qworths1) (C := RX0) (T := TX0) (N := 7) hx hb hts inX0 hown hKN.1 hP 0 rfl rfl 5 (by decide) (hts _ tw_424) (fun _ h9 => h9) rfl dX0_weighSets_100 ?_
        refine lv_iload_n hx hb dX0_weighSets_103 rfl (lv_at hl 0 rfl) ?_
        refine lv_aload_n hx hb dX0_weighSets_104 rfl (lv_at hl 3 rfl) ?_
        refine va_get (D := D) (ci := 0) (v := .ref b_qworths1) (C := RX0) (T := TX0) (N := 7) hx hb hts inX0 hown hKN.1 hP 0 rfl rfl 5 (by decide) (hts _ tw_424) (fun _ h9 => h9) rfl dX0_weighSets_105 ?_
        refine lv_iload_n hx hb dX0_weighSets_108 rfl (lv_at hl 0 rfl) ?_
        refine lv_iload_n hx hb dX0_weighSets_109 rfl (lv_at hl 1 rfl) ?_
        refine lv_isub hx hb dX0_weighSets_110 ?_
        refine lv_topi (fun x_1365 ex_1365 => ?_)
        obtain rfl : x_1351 = x_1365 := ex_1351.trans ex_1365.symm
        refine va_iald hx hb hKN.1 hP 3 1 rfl rfl (vp_in_iff.mpr ⟨by omega, by omega⟩) dX0_weighSets_111 ?_
        refine lv_topi (fun x_1366 ex_1366 => ?_)
        refine lv_aload_n hx hb dX0_weighSets_112 rfl (lv_at hl 3 rfl) ?_
        refine va_get (D := D) (ci := 0) (v := .ref g) (C := RX0) (T := TX0) (N := 7) hx hb hts inX0 hown hKN.1 hP 0 rfl rfl 6 (by decide) (hts _ tw_425) (fun _ h9 => h9) rfl dX0_weighSets_113 ?_
        refine lv_iload_n hx hb dX0_weighSets_116 rfl (lv_at hl 2 rfl) ?_
        refine lv_iconst (v := 1) hx hb dX0_weighSets_117 (by decide) ?_
        have z_1367 := zi_1
        refine cpVi (rest := [.int x_1366, .int L3_1340, .ref b_qworths1]) ⟨hx, hb, hml, hown, hts⟩ hKN (hP.sub (ws' := [(g, .inr (3, [.int g_odds, .int g_pot, .int g_lines, .int g_men, .int g_clauses, .int g_winds, .int g_far0, .int g_far1, .ref g_qsides, .ref g_qgrips, .ref g_qwits, .ref g_qsays, .ref g_qgives0, .ref g_qgives1, .ref g_qfroms, .ref g_qtos])), (g_qgives0, .inl (cA 1, 7, .inl g_cgives0)), (g_qgives1, .inl (cA 1, 7, .inl g_cgives1))]) [4, 6, 7] rfl) (g_X3_giftOf l D cA g g_odds g_pot g_lines g_men g_clauses g_winds g_far0 g_far1 g_qsides g_qgrips g_qwits g_qsays g_qgives0 g_qgives1 g_qfroms g_qtos g_cgives0 g_cgives1 L1_1142 1 (by omega) (by omega) (by omega) (by omega) (by omega) (by omega) (by omega)) (tb_V tw_1054 tw_729 tw_730 tw_104 tw_731) hdX3_giftOf ⟨rfl, rfl, Nat.le_of_ble_eq_true rfl, Nat.le_of_ble_eq_true rfl⟩ ⟨Nat.le_of_ble_eq_true rfl, Nat.le_of_ble_eq_true rfl⟩ rfl rfl rfl hl.1 rfl (Nat.le_of_ble_eq_true rfl) dX0_weighSets_118 (fun r_1368 hr_1368 => ?_)
        refine lv_iadd hx hb dX0_weighSets_121 ?_
        refine lv_topi (fun x_1369 ex_1369 => ?_)
        refine va_iast hx hb hKN.1 hP hD hS 3 1 rfl rfl (vp_in_iff.mpr ⟨by omega, by omega⟩) dX0_weighSets_122 (fun H locs hP hD hS => ?_)
        have hP : va_P D vwCl [(h0, .inr (0, [.int b_bundlesFound, .int b_firstBundle, .int r_5, .ref b_qlengths, .ref b_qworths0, .ref b_qworths1, .ref g])), (b_qlengths, .inl (cA 1, 128, .inl f_1357)), (b_qworths0, .inl (cA 1, 128, .inl f_1364)), (b_qworths1, .inl (cA 1, 128, .inl (upd F3_1340 L3_1340.toNatClampNeg x_1369))), (g, .inr (3, [.int g_odds, .int g_pot, .int g_lines, .int g_men, .int g_clauses, .int g_winds, .int g_far0, .int g_far1, .ref g_qsides, .ref g_qgrips, .ref g_qwits, .ref g_qsays, .ref g_qgives0, .ref g_qgives1, .ref g_qfroms, .ref g_qtos])), (g_qsays, .inl (cA 1, 7, .inl g_csays)), (g_qgives0, .inl (cA 1, 7, .inl g_cgives0)), (g_qgives1, .inl (cA 1, 7, .inl g_cgives1))] H := hP
        have hD : va_D A [(h0, .inr (0, [.int b_bundlesFound, .int b_firstBundle, .int r_5, .ref b_qlengths, .ref b_qworths0, .ref b_qworths1, .ref g])), (b_qlengths, .inl (cA 1, 128, .inl f_1357)), (b_qworths0, .inl (cA 1, 128, .inl f_1364)), (b_qworths1, .inl (cA 1, 128, .inl (upd F3_1340 L3_1340.toNatClampNeg x_1369))), (g, .inr (3, [.int g_odds, .int g_pot, .int g_lines, .int g_men, .int g_clauses, .int g_winds, .int g_far0, .int g_far1, .ref g_qsides, .ref g_qgrips, .ref g_qwits, .ref g_qsays, .ref g_qgives0, .ref g_qgives1, .ref g_qfroms, .ref g_qtos])), (g_qsays, .inl (cA 1, 7, .inl g_csays)), (g_qgives0, .inl (cA 1, 7, .inl g_cgives0)), (g_qgives1, .inl (cA 1, 7, .inl g_cgives1))] := hD
        generalize ef_1371 : (upd F3_1340 L3_1340.toNatClampNeg x_1369) = f_1371 at hP hD
        obtain ⟨x_1372, ex_1372⟩ : ∃ y : Int32, L3_1340 + Int32.ofInt 1 = y := ⟨_, rfl⟩
        have k_1373 := ar_add (b := 1) rfl zi_1 ex_1372.symm (by omega) (by omega)
        refine lv_iinc (v := x_1372) (lv' := [(3, .int x_1372), (2, .int x_1146), (1, .int L1_1142), (0, .ref h0)]) hx hb dX0_weighSets_123 hl (k := 0) rfl ex_1372 (by decide) rfl (fun ls hl => ?_)
        refine lv_goto (tgt := 38) hx hb dX0_weighSets_126 (by decide) ?_
        exact ih_1340 (x_1372, f_1357, f_1364, f_1371) _ _ _ ⟨(show 1 ≤ x_1372.toInt ∧ x_1372.toInt ≤ 128 from by omega), (show x_1146.toInt ≤ x_1372.toInt from by first | omega | decide), hP.sub [0, 1, 2, 3, 4, 5, 6, 7] rfl, hD.sub [0, 1, 2, 3, 4, 5, 6, 7] (by decide) rfl, hS, lv_sub hl [0, 1, 2, 3] rfl⟩ (by show (2147483647 - x_1372.toInt).toNat < (2147483647 - L3_1340.toInt).toNat; omega)
set_option maxHeartbeats 8000000 in
set_option maxRecDepth 100000 in
theorem g_X0_largestSaid (l : Launch) (D : va_G) (cA : Nat → ClassId) (sz : Nat) (h0 : Nat) (b_bundlesFound : Int32) (b_firstBundle : Int32) (b_sets : Int32) (b_qlengths : Nat) (b_qworths0 : Nat) (b_qworths1 : Nat) (g : Nat) (b_clengths : Nat → Int32) (b_cworths0 : Nat → Int32) (b_cworths1 : Nat → Int32) (g_odds : Int32) (g_pot : Int32) (g_lines : Int32) (g_men : Int32) (g_clauses : Int32) (g_winds : Int32) (g_far0 : Int32) (g_far1 : Int32) (g_qsides : Nat) (g_qgrips : Nat) (g_qwits : Nat) (g_qsays : Nat) (g_qgives0 : Nat) (g_qgives1 : Nat) (g_qfroms : Nat) (g_qtos : Nat) (g_csays : Nat → Int32) (g_cgives0 : Nat → Int32) (g_cgives1 : Nat → Int32) (p0 : Int32) (h_g_odds : -999 ≤ (g_odds : Int32).toInt ∧ (g_odds : Int32).toInt ≤ 999) (h_g_pot : -999 ≤ (g_pot : Int32).toInt ∧ (g_pot : Int32).toInt ≤ 999) (h_g_men : 0 ≤ (g_men : Int32).toInt ∧ (g_men : Int32).toInt ≤ 8) (h_g_clauses : 0 ≤ (g_clauses : Int32).toInt ∧ (g_clauses : Int32).toInt ≤ 7) (h_g_winds : 0 ≤ (g_winds : Int32).toInt ∧ (g_winds : Int32).toInt ≤ 4) (h_g_far0 : -999 ≤ (g_far0 : Int32).toInt ∧ (g_far0 : Int32).toInt ≤ 999) (h_g_far1 : -999 ≤ (g_far1 : Int32).toInt ∧ (g_far1 : Int32).toInt ≤ 999) : Met l yX0_largestSaid (Cond.code yX0_largestSaid cX0_largestSaid 4 (some .int) :: TB) (rmd 3 0 0) (PM D cA sz [(h0, .inr (0, [.int b_bundlesFound, .int b_firstBundle, .int b_sets, .ref b_qlengths, .ref b_qworths0, .ref b_qworths1, .ref g])), (b_qlengths, .inl (cA 1, 128, .inl b_clengths)), (b_qworths0, .inl (cA 1, 128, .inl b_cworths0)), (b_qworths1, .inl (cA 1, 128, .inl b_cworths1)), (g, .inr (3, [.int g_odds, .int g_pot, .int g_lines, .int g_men, .int g_clauses, .int g_winds, .int g_far0, .int g_far1, .ref g_qsides, .ref g_qgrips, .ref g_qwits, .ref g_qsays, .ref g_qgives0, .ref g_qgives1, .ref g_qfroms, .ref g_qtos])), (g_qsays, .inl (cA 1, 7, .inl g_csays)), (g_qgives0, .inl (cA 1, 7, .inl g_cgives0)), (g_qgives1, .inl (cA 1, 7, .inl g_cgives1))] [.ref h0, .int p0]) (va_Qi (fun r (u : SU) => (0 ≤ r.toInt ∧ r.toInt ≤ 127) ∧ (1 ≤ (u.2.1 0).toInt ∧ (u.2.1 0).toInt ≤ 128)) (fun u t => va_P D vwCl [(h0, .inr (0, [.int b_bundlesFound, .int b_firstBundle, .int (u.2.1 0), .ref b_qlengths, .ref b_qworths0, .ref b_qworths1, .ref g])), (b_qlengths, .inl (cA 1, 128, .inl (u.2.2.1 0))), (b_qworths0, .inl (cA 1, 128, .inl (u.2.2.1 1))), (b_qworths1, .inl (cA 1, 128, .inl (u.2.2.1 2))), (g, .inr (3, [.int g_odds, .int g_pot, .int g_lines, .int g_men, .int g_clauses, .int g_winds, .int g_far0, .int g_far1, .ref g_qsides, .ref g_qgrips, .ref g_qwits, .ref g_qsays, .ref g_qgives0, .ref g_qgives1, .ref g_qfroms, .ref g_qtos])), (g_qsays, .inl (cA 1, 7, .inl g_csays)), (g_qgives0, .inl (cA 1, 7, .inl g_cgives0)), (g_qgives1, .inl (cA 1, 7, .inl g_cgives1))] t.heap ∧ va_D (va_A [(h0, .inr (0, [.int b_bundlesFound, .int b_firstBundle, .int b_sets, .ref b_qlengths, .ref b_qworths0, .ref b_qworths1, .ref g])), (b_qlengths, .inl (cA 1, 128, .inl b_clengths)), (b_qworths0, .inl (cA 1, 128, .inl b_cworths0)), (b_qworths1, .inl (cA 1, 128, .inl b_cworths1)), (g, .inr (3, [.int g_odds, .int g_pot, .int g_lines, .int g_men, .int g_clauses, .int g_winds, .int g_far0, .int g_far1, .ref g_qsides, .ref g_qgrips, .ref g_qwits, .ref g_qsays, .ref g_qgives0, .ref g_qgives1, .ref g_qfroms, .ref g_qtos])), (g_qsays, .inl (cA 1, 7, .inl g_csays)), (g_qgives0, .inl (cA 1, 7, .inl g_cgives0)), (g_qgives1, .inl (cA 1, 7, .inl g_cgives1))] sz) [(h0, .inr (0, [.int b_bundlesFound, .int b_firstBundle, .int (u.2.1 0), .ref b_qlengths, .ref b_qworths0, .ref b_qworths1, .ref g])), (b_qlengths, .inl (cA 1, 128, .inl (u.2.2.1 0))), (b_qworths0, .inl (cA 1, 128, .inl (u.2.2.1 1))), (b_qworths1, .inl (cA 1, 128, .inl (u.2.2.1 2))), (g, .inr (3, [.int g_odds, .int g_pot, .int g_lines, .int g_men, .int g_clauses, .int g_winds, .int g_far0, .int g_far1, .ref g_qsides, .ref g_qgrips, .ref g_qwits, .ref g_qsays, .ref g_qgives0, .ref g_qgives1, .ref g_qfroms, .ref g_qtos])), (g_qsays, .inl (cA 1, 7, .inl g_csays)), (g_qgives0, .inl (cA 1, 7, .inl g_cgives0)), (g_qgives1, .inl (cA 1, 7, .inl g_cgives1))]) (va_A [(h0, .inr (0, [.int b_bundlesFound, .int b_firstBundle, .int b_sets, .ref b_qlengths, .ref b_qworths0, .ref b_qworths1, .ref g])), (b_qlengths, .inl (cA 1, 128, .inl b_clengths)), (b_qworths0, .inl (cA 1, 128, .inl b_cworths0)), (b_qworths1, .inl (cA 1, 128, .inl b_cworths1)), (g, .inr (3, [.int g_odds, .int g_pot, .int g_lines, .int g_men, .int g_clauses, .int g_winds, .int g_far0, .int g_far1, .ref g_qsides, .ref g_qgrips, .ref g_qwits, .ref g_qsays, .ref g_qgives0, .ref g_qgives1, .ref g_qfroms, .ref g_qtos])), (g_qsays, .inl (cA 1, 7, .inl g_csays)), (g_qgives0, .inl (cA 1, 7, .inl g_cgives0)), (g_qgives1, .inl (cA 1, 7, .inl g_cgives1))] sz)) 0 0 (va_A [(h0, .inr (0, [.int b_bundlesFound, .int b_firstBundle, .int b_sets, .ref b_qlengths, .ref b_qworths0, .ref b_qworths1, .ref g])), (b_qlengths, .inl (cA 1, 128, .inl b_clengths)), (b_qworths0, .inl (cA 1, 128, .inl b_cworths0)), (b_qworths1, .inl (cA 1, 128, .inl b_cworths1)), (g, .inr (3, [.int g_odds, .int g_pot, .int g_lines, .int g_men, .int g_clauses, .int g_winds, .int g_far0, .int g_far1, .ref g_qsides, .ref g_qgrips, .ref g_qwits, .ref g_qsays, .ref g_qgives0, .ref g_qgives1, .ref g_qfroms, .ref g_qtos])), (g_qsays, .inl (cA 1, 7, .inl g_csays)), (g_qgives0, .inl (cA 1, 7, .inl g_cgives0)), (g_qgives1, .inl (cA 1, 7, .inl g_cgives1))] sz) := by
  refine Met.ofW (cc := cX0_largestSaid) (maxL := 4) (ret := (some .int)) (by decide) rfl ?_
  intro p e s m args below meth c s₁ B hml hv
  obtain ⟨rfl, hsz, hP, hKN, hD0⟩ := hv
  have hx := B.exec
  have hb := B.bytes
  have hr := B.returns
  have hts : ∀ w ∈ TB, w.before _ s = true := fun w h => atoms_spec B.pre w (List.mem_cons_of_mem _ h)
  have hown : s.vm.findClass RX0 = some m.cls := findClass_of_methodNamed B.named
  have hlocks := B.notSynchronized
  subst hsz
  have hD := hD0.self (sz := s.heap.size)
  generalize hAe : va_A [(h0, .inr (0, [.int b_bundlesFound, .int b_firstBundle, .int b_sets, .ref b_qlengths, .ref b_qworths0, .ref b_qworths1, .ref g])), (b_qlengths, .inl (cA 1, 128, .inl b_clengths)), (b_qworths0, .inl (cA 1, 128, .inl b_cworths0)), (b_qworths1, .inl (cA 1, 128, .inl b_cworths1)), (g, .inr (3, [.int g_odds, .int g_pot, .int g_lines, .int g_men, .int g_clauses, .int g_winds, .int g_far0, .int g_far1, .ref g_qsides, .ref g_qgrips, .ref g_qwits, .ref g_qsays, .ref g_qgives0, .ref g_qgives1, .ref g_qfroms, .ref g_qtos])), (g_qsays, .inl (cA 1, 7, .inl g_csays)), (g_qgives0, .inl (cA 1, 7, .inl g_cgives0)), (g_qgives1, .inl (cA 1, 7, .inl g_cgives1))] s.heap.size = A at hD ⊢
  have hA : ∀ q : Nat, s.heap.size ≤ q → A q := fun q h => by rw [← hAe]; exact Or.inr h
  have hS : va_S A s.heap s.heap [] := va_S.rf
  have hl := lv_entry ([.ref h0, .int p0]) (n := 4) (Nat.le_of_ble_eq_true rfl)
  rw [lg_entry_eq]
  generalize (lg_sl ([.ref h0, .int p0]) ++ List.replicate (4 - (lg_sl ([.ref h0, .int p0])).length) Slot.unset).toArray = ls at hl ⊢
  have hl : lv_has ls 4 [(0, .ref h0), (1, .int p0)] := hl
  refine lv_aload_n hx hb dX0_largestSaid_0 rfl (lv_at hl 0 rfl) ?_
  refine cmVv (rest := []) (wsC := [(h0, .inr (0, [.int b_bundlesFound, .int b_firstBundle, .int b_sets, .ref b_qlengths, .ref b_qworths0, .ref b_qworths1, .ref g])), (b_qlengths, .inl (cA 1, 128, .inl b_clengths)), (b_qworths0, .inl (cA 1, 128, .inl b_cworths0)), (b_qworths1, .inl (cA 1, 128, .inl b_cworths1)), (g, .inr (3, [.int g_odds, .int g_pot, .int g_lines, .int g_men, .int g_clauses, .int g_winds, .int g_far0, .int g_far1, .ref g_qsides, .ref g_qgrips, .ref g_qwits, .ref g_qsays, .ref g_qgives0, .ref g_qgives1, .ref g_qfroms, .ref g_qtos])), (g_qsays, .inl (cA 1, 7, .inl g_csays)), (g_qgives0, .inl (cA 1, 7, .inl g_cgives0)), (g_qgives1, .inl (cA 1, 7, .inl g_cgives1))]) (wr := []) ⟨hx, hb, hml, hown, hts⟩ hKN hP hD hS hA [0, 1, 2, 3, 4, 5, 6, 7] [] rfl rfl (by decide) (by decide) (by decide) (g_X0_weighSets l D cA _ h0 b_bundlesFound b_firstBundle b_sets b_qlengths b_qworths0 b_qworths1 g b_clengths b_cworths0 b_cworths1 g_odds g_pot g_lines g_men g_clauses g_winds g_far0 g_far1 g_qsides g_qgrips g_qwits g_qsays g_qgives0 g_qgives1 g_qfroms g_qtos g_csays g_cgives0 g_cgives1 (by omega) (by omega) (by omega) (by omega) (by omega) (by omega) (by omega)) (tb_V tw_1047 tw_1049 tw_22 tw_112 tw_1050) hdX0_weighSets ⟨rfl, rfl, Nat.le_of_ble_eq_true rfl, Nat.le_of_ble_eq_true rfl⟩ ⟨Nat.le_of_ble_eq_true rfl, Nat.le_of_ble_eq_true rfl⟩ rfl rfl rfl hl.1 rfl (Nat.le_of_ble_eq_true rfl) dX0_largestSaid_1 (fun u_1 H locs hr_1 hP hD hS => ?_)
  have hP : va_P D vwCl [(h0, .inr (0, [.int b_bundlesFound, .int b_firstBundle, .int (u_1.2.1 0), .ref b_qlengths, .ref b_qworths0, .ref b_qworths1, .ref g])), (b_qlengths, .inl (cA 1, 128, .inl (u_1.2.2.1 0))), (b_qworths0, .inl (cA 1, 128, .inl (u_1.2.2.1 1))), (b_qworths1, .inl (cA 1, 128, .inl (u_1.2.2.1 2))), (g, .inr (3, [.int g_odds, .int g_pot, .int g_lines, .int g_men, .int g_clauses, .int g_winds, .int g_far0, .int g_far1, .ref g_qsides, .ref g_qgrips, .ref g_qwits, .ref g_qsays, .ref g_qgives0, .ref g_qgives1, .ref g_qfroms, .ref g_qtos])), (g_qsays, .inl (cA 1, 7, .inl g_csays)), (g_qgives0, .inl (cA 1, 7, .inl g_cgives0)), (g_qgives1, .inl (cA 1, 7, .inl g_cgives1))] H := hP
  have hD : va_D A [(h0, .inr (0, [.int b_bundlesFound, .int b_firstBundle, .int (u_1.2.1 0), .ref b_qlengths, .ref b_qworths0, .ref b_qworths1, .ref g])), (b_qlengths, .inl (cA 1, 128, .inl (u_1.2.2.1 0))), (b_qworths0, .inl (cA 1, 128, .inl (u_1.2.2.1 1))), (b_qworths1, .inl (cA 1, 128, .inl (u_1.2.2.1 2))), (g, .inr (3, [.int g_odds, .int g_pot, .int g_lines, .int g_men, .int g_clauses, .int g_winds, .int g_far0, .int g_far1, .ref g_qsides, .ref g_qgrips, .ref g_qwits, .ref g_qsays, .ref g_qgives0, .ref g_qgives1, .ref g_qfroms, .ref g_qtos])), (g_qsays, .inl (cA 1, 7, .inl g_csays)), (g_qgives0, .inl (cA 1, 7, .inl g_cgives0)), (g_qgives1, .inl (cA 1, 7, .inl g_cgives1))] := hD
  have hr_1_0 := hr_1
  refine lv_iconst (v := 0) hx hb dX0_largestSaid_4 (by decide) ?_
  refine lv_istore_n (lv' := [(2, .int 0), (0, .ref h0), (1, .int p0)]) hx hb dX0_largestSaid_5 rfl hl (by decide) rfl (fun ls hl => ?_)
  refine lv_iconst (v := 0) hx hb dX0_largestSaid_6 (by decide) ?_
  refine lv_istore_n (lv' := [(3, .int 0), (2, .int 0), (0, .ref h0), (1, .int p0)]) hx hb dX0_largestSaid_7 rfl hl (by decide) rfl (fun ls hl => ?_)
  refine loopW (σ := Int32 × Int32) (fun _ => []) (fun ⟨L3_140, L2_140⟩ H locs ls => (0 ≤ L3_140.toInt ∧ L3_140.toInt ≤ 128) ∧ (0 ≤ L2_140.toInt ∧ L2_140.toInt ≤ 127) ∧ va_P D vwCl [(h0, .inr (0, [.int b_bundlesFound, .int b_firstBundle, .int (u_1.2.1 0), .ref b_qlengths, .ref b_qworths0, .ref b_qworths1, .ref g])), (b_qlengths, .inl (cA 1, 128, .inl (u_1.2.2.1 0))), (b_qworths0, .inl (cA 1, 128, .inl (u_1.2.2.1 1))), (b_qworths1, .inl (cA 1, 128, .inl (u_1.2.2.1 2))), (g, .inr (3, [.int g_odds, .int g_pot, .int g_lines, .int g_men, .int g_clauses, .int g_winds, .int g_far0, .int g_far1, .ref g_qsides, .ref g_qgrips, .ref g_qwits, .ref g_qsays, .ref g_qgives0, .ref g_qgives1, .ref g_qfroms, .ref g_qtos])), (g_qsays, .inl (cA 1, 7, .inl g_csays)), (g_qgives0, .inl (cA 1, 7, .inl g_cgives0)), (g_qgives1, .inl (cA 1, 7, .inl g_cgives1))] H ∧ va_D A [(h0, .inr (0, [.int b_bundlesFound, .int b_firstBundle, .int (u_1.2.1 0), .ref b_qlengths, .ref b_qworths0, .ref b_qworths1, .ref g])), (b_qlengths, .inl (cA 1, 128, .inl (u_1.2.2.1 0))), (b_qworths0, .inl (cA 1, 128, .inl (u_1.2.2.1 1))), (b_qworths1, .inl (cA 1, 128, .inl (u_1.2.2.1 2))), (g, .inr (3, [.int g_odds, .int g_pot, .int g_lines, .int g_men, .int g_clauses, .int g_winds, .int g_far0, .int g_far1, .ref g_qsides, .ref g_qgrips, .ref g_qwits, .ref g_qsays, .ref g_qgives0, .ref g_qgives1, .ref g_qfroms, .ref g_qtos])), (g_qsays, .inl (cA 1, 7, .inl g_csays)), (g_qgives0, .inl (cA 1, 7, .inl g_cgives0)), (g_qgives1, .inl (cA 1, 7, .inl g_cgives1))] ∧ va_S A s.heap H locs ∧ lv_has ls 4 [(3, .int L3_140), (2, .int L2_140), (0, .ref h0), (1, .int p0)]) (fun ⟨L3_140, L2_140⟩ => (2147483647 - L3_140.toInt).toNat) ?_ ((0, 0) : Int32 × Int32) ⟨(by decide), (by decide), hP, hD, hS, hl⟩
  intro x_140 H locs ls hI_140 ih_140
  obtain ⟨L3_140, L2_140⟩ := x_140
  obtain ⟨k0_140, k1_140, hP, hD, hS, hl⟩ := hI_140
  have hP : va_P D vwCl [(h0, .inr (0, [.int b_bundlesFound, .int b_firstBundle, .int (u_1.2.1 0), .ref b_qlengths, .ref b_qworths0, .ref b_qworths1, .ref g])), (b_qlengths, .inl (cA 1, 128, .inl (u_1.2.2.1 0))), (b_qworths0, .inl (cA 1, 128, .inl (u_1.2.2.1 1))), (b_qworths1, .inl (cA 1, 128, .inl (u_1.2.2.1 2))), (g, .inr (3, [.int g_odds, .int g_pot, .int g_lines, .int g_men, .int g_clauses, .int g_winds, .int g_far0, .int g_far1, .ref g_qsides, .ref g_qgrips, .ref g_qwits, .ref g_qsays, .ref g_qgives0, .ref g_qgives1, .ref g_qfroms, .ref g_qtos])), (g_qsays, .inl (cA 1, 7, .inl g_csays)), (g_qgives0, .inl (cA 1, 7, .inl g_cgives0)), (g_qgives1, .inl (cA 1, 7, .inl g_cgives1))] H := hP
  have hD : va_D A [(h0, .inr (0, [.int b_bundlesFound, .int b_firstBundle, .int (u_1.2.1 0), .ref b_qlengths, .ref b_qworths0, .ref b_qworths1, .ref g])), (b_qlengths, .inl (cA 1, 128, .inl (u_1.2.2.1 0))), (b_qworths0, .inl (cA 1, 128, .inl (u_1.2.2.1 1))), (b_qworths1, .inl (cA 1, 128, .inl (u_1.2.2.1 2))), (g, .inr (3, [.int g_odds, .int g_pot, .int g_lines, .int g_men, .int g_clauses, .int g_winds, .int g_far0, .int g_far1, .ref g_qsides, .ref g_qgrips, .ref g_qwits, .ref g_qsays, .ref g_qgives0, .ref g_qgives1, .ref g_qfroms, .ref g_qtos])), (g_qsays, .inl (cA 1, 7, .inl g_csays)), (g_qgives0, .inl (cA 1, 7, .inl g_cgives0)), (g_qgives1, .inl (cA 1, 7, .inl g_cgives1))] := hD
  have hl : lv_has ls 4 [(3, .int L3_140), (2, .int L2_140), (0, .ref h0), (1, .int p0)] := hl
  refine lv_iload_n hx hb dX0_largestSaid_8 rfl (lv_at hl 0 rfl) ?_
  refine lv_aload_n hx hb dX0_largestSaid_9 rfl (lv_at hl 2 rfl) ?_
  refine va_get (D := D) (ci := 0) (v := .int (u_1.2.1 0)) (C := RX0) (T := TX0) (N := 7) hx hb hts inX0 hown hKN.1 hP 0 rfl rfl 2 (by decide) (hts _ tw_421) (fun _ h9 => h9) rfl dX0_largestSaid_10 ?_
  refine lv_icmp_ge (tgt := 45) hx hb dX0_largestSaid_13 (by decide) (fun c_141 => ?_) (fun c_141 => ?_)
  · skip
    have k_142 := kk_le rfl rfl c_141
    refine lv_iload_n hx hb dX0_largestSaid_45 rfl (lv_at hl 1 rfl) ?_
    have hP9 := hP.sub (ws' := [(h0, .inr (0, [.int b_bundlesFound, .int b_firstBundle, .int (u_1.2.1 0), .ref b_qlengths, .ref b_qworths0, .ref b_qworths1, .ref g])), (b_qlengths, .inl (cA 1, 128, .inl (u_1.2.2.1 0))), (b_qworths0, .inl (cA 1, 128, .inl (u_1.2.2.1 1))), (b_qworths1, .inl (cA 1, 128, .inl (u_1.2.2.1 2))), (g, .inr (3, [.int g_odds, .int g_pot, .int g_lines, .int g_men, .int g_clauses, .int g_winds, .int g_far0, .int g_far1, .ref g_qsides, .ref g_qgrips, .ref g_qwits, .ref g_qsays, .ref g_qgives0, .ref g_qgives1, .ref g_qfroms, .ref g_qtos])), (g_qsays, .inl (cA 1, 7, .inl g_csays)), (g_qgives0, .inl (cA 1, 7, .inl g_cgives0)), (g_qgives1, .inl (cA 1, 7, .inl g_cgives1))]) [0, 1, 2, 3, 4, 5, 6, 7] rfl
    have hD9 := hD.sub (ws' := [(h0, .inr (0, [.int b_bundlesFound, .int b_firstBundle, .int (u_1.2.1 0), .ref b_qlengths, .ref b_qworths0, .ref b_qworths1, .ref g])), (b_qlengths, .inl (cA 1, 128, .inl (u_1.2.2.1 0))), (b_qworths0, .inl (cA 1, 128, .inl (u_1.2.2.1 1))), (b_qworths1, .inl (cA 1, 128, .inl (u_1.2.2.1 2))), (g, .inr (3, [.int g_odds, .int g_pot, .int g_lines, .int g_men, .int g_clauses, .int g_winds, .int g_far0, .int g_far1, .ref g_qsides, .ref g_qgrips, .ref g_qwits, .ref g_qsays, .ref g_qgives0, .ref g_qgives1, .ref g_qfroms, .ref g_qtos])), (g_qsays, .inl (cA 1, 7, .inl g_csays)), (g_qgives0, .inl (cA 1, 7, .inl g_cgives0)), (g_qgives1, .inl (cA 1, 7, .inl g_cgives1))]) [0, 1, 2, 3, 4, 5, 6, 7] (by decide) rfl
    exact W.iret (v := L2_140) hx hb hr (fun t ht hW => ⟨⟨L2_140, ((fun _ => 0), (selI [(u_1.2.1 0)]), (selF [(u_1.2.2.1 0), (u_1.2.2.1 1), (u_1.2.2.1 2)]), (fun _ _ => 0)), rfl, ⟨(show 0 ≤ L2_140.toInt ∧ L2_140.toInt ≤ 127 from by omega), (show 1 ≤ (u_1.2.1 0).toInt ∧ (u_1.2.1 0).toInt ≤ 128 from by omega)⟩, by rw [ht]; exact hP9, hD9⟩, hS.F ht⟩) hS.2.2 dX0_largestSaid_46
  · skip
    have k_143 := kk_nle rfl rfl c_141
    refine lv_aload_n hx hb dX0_largestSaid_16 rfl (lv_at hl 2 rfl) ?_
    refine va_get (D := D) (ci := 0) (v := .ref b_qlengths) (C := RX0) (T := TX0) (N := 7) hx hb hts inX0 hown hKN.1 hP 0 rfl rfl 3 (by decide) (hts _ tw_422) (fun _ h9 => h9) rfl dX0_largestSaid_17 ?_
    refine lv_iload_n hx hb dX0_largestSaid_20 rfl (lv_at hl 0 rfl) ?_
    refine va_iald hx hb hKN.1 hP 1 1 rfl rfl (vp_in_iff.mpr ⟨by omega, by omega⟩) dX0_largestSaid_21 ?_
    refine lv_topi (fun x_144 ex_144 => ?_)
    refine lv_iload_n hx hb dX0_largestSaid_22 rfl (lv_at hl 3 rfl) ?_
    refine lv_icmp_gt (tgt := 39) hx hb dX0_largestSaid_23 (by decide) (fun c_145 => ?_) (fun c_145 => ?_)
    · skip
      have b_147 := i32_bd p0
      have b_148 := i32_bd x_144
      have k_146 := kk_lt rfl rfl c_145
      obtain ⟨x_149, ex_149⟩ : ∃ y : Int32, L3_140 + Int32.ofInt 1 = y := ⟨_, rfl⟩
      have k_150 := ar_add (b := 1) rfl zi_1 ex_149.symm (by omega) (by omega)
      refine lv_iinc (v := x_149) (lv' := [(3, .int x_149), (2, .int L2_140), (0, .ref h0), (1, .int p0)]) hx hb dX0_largestSaid_39 hl (k := 0) rfl ex_149 (by decide) rfl (fun ls hl => ?_)
      refine lv_goto (tgt := 8) hx hb dX0_largestSaid_42 (by decide) ?_
      exact ih_140 (x_149, L2_140) _ _ _ ⟨(show 0 ≤ x_149.toInt ∧ x_149.toInt ≤ 128 from by omega), (show 0 ≤ L2_140.toInt ∧ L2_140.toInt ≤ 127 from by omega), hP.sub [0, 1, 2, 3, 4, 5, 6, 7] rfl, hD.sub [0, 1, 2, 3, 4, 5, 6, 7] (by decide) rfl, hS, lv_sub hl [0, 1, 2, 3] rfl⟩ (by show (2147483647 - x_149.toInt).toNat < (2147483647 - L3_140.toInt).toNat; omega)
    · skip
      have b_152 := i32_bd p0
      have b_153 := i32_bd x_144
      have k_151 := kk_nlt rfl rfl c_145
      refine lv_iload_n hx hb dX0_largestSaid_26 rfl (lv_at hl 0 rfl) ?_
      refine cpSi (rest := []) ⟨hx, hb, hml, hown, hts⟩ hKN (hP.sub (ws' := []) [] rfl) (g_J6_bitCount_0f7a4 l D cA L3_140) (tb_S tw_1055 tw_1056 tw_121 tw_1057) hdJ6_bitCount_0f7a4 ⟨rfl, rfl, Nat.le_of_ble_eq_true rfl, Nat.le_of_ble_eq_true rfl⟩ ⟨Nat.le_of_ble_eq_true rfl, Nat.le_of_ble_eq_true rfl⟩ rfl hl.1 rfl (Nat.le_of_ble_eq_true rfl) dX0_largestSaid_27 (fun r_154 hr_154 => ?_)
      refine lv_iload_n hx hb dX0_largestSaid_30 rfl (lv_at hl 1 rfl) ?_
      refine cpSi (rest := [.int r_154]) ⟨hx, hb, hml, hown, hts⟩ hKN (hP.sub (ws' := []) [] rfl) (g_J6_bitCount_0f7a4 l D cA L2_140) (tb_S tw_1055 tw_1056 tw_121 tw_1057) hdJ6_bitCount_0f7a4 ⟨rfl, rfl, Nat.le_of_ble_eq_true rfl, Nat.le_of_ble_eq_true rfl⟩ ⟨Nat.le_of_ble_eq_true rfl, Nat.le_of_ble_eq_true rfl⟩ rfl hl.1 rfl (Nat.le_of_ble_eq_true rfl) dX0_largestSaid_31 (fun r_155 hr_155 => ?_)
      refine lv_icmp_le (tgt := 39) hx hb dX0_largestSaid_34 (by decide) (fun c_156 => ?_) (fun c_156 => ?_)
      · skip
        have k_157 := kk_le rfl rfl c_156
        obtain ⟨x_158, ex_158⟩ : ∃ y : Int32, L3_140 + Int32.ofInt 1 = y := ⟨_, rfl⟩
        have k_159 := ar_add (b := 1) rfl zi_1 ex_158.symm (by omega) (by omega)
        refine lv_iinc (v := x_158) (lv' := [(3, .int x_158), (2, .int L2_140), (0, .ref h0), (1, .int p0)]) hx hb dX0_largestSaid_39 hl (k := 0) rfl ex_158 (by decide) rfl (fun ls hl => ?_)
        refine lv_goto (tgt := 8) hx hb dX0_largestSaid_42 (by decide) ?_
        exact ih_140 (x_158, L2_140) _ _ _ ⟨(show 0 ≤ x_158.toInt ∧ x_158.toInt ≤ 128 from by omega), (show 0 ≤ L2_140.toInt ∧ L2_140.toInt ≤ 127 from by omega), hP.sub [0, 1, 2, 3, 4, 5, 6, 7] rfl, hD.sub [0, 1, 2, 3, 4, 5, 6, 7] (by decide) rfl, hS, lv_sub hl [0, 1, 2, 3] rfl⟩ (by show (2147483647 - x_158.toInt).toNat < (2147483647 - L3_140.toInt).toNat; omega)
      · skip
        have k_160 := kk_nle rfl rfl c_156
        refine lv_iload_n hx hb dX0_largestSaid_37 rfl (lv_at hl 0 rfl) ?_
        refine lv_istore_n (lv' := [(2, .int L3_140), (3, .int L3_140), (0, .ref h0), (1, .int p0)]) hx hb dX0_largestSaid_38 rfl hl (by decide) rfl (fun ls hl => ?_)
        obtain ⟨x_161, ex_161⟩ : ∃ y : Int32, L3_140 + Int32.ofInt 1 = y := ⟨_, rfl⟩
        have k_162 := ar_add (b := 1) rfl zi_1 ex_161.symm (by omega) (by omega)
        refine lv_iinc (v := x_161) (lv' := [(3, .int x_161), (2, .int L3_140), (0, .ref h0), (1, .int p0)]) hx hb dX0_largestSaid_39 hl (k := 1) rfl ex_161 (by decide) rfl (fun ls hl => ?_)
        refine lv_goto (tgt := 8) hx hb dX0_largestSaid_42 (by decide) ?_
        exact ih_140 (x_161, L3_140) _ _ _ ⟨(show 0 ≤ x_161.toInt ∧ x_161.toInt ≤ 128 from by omega), (show 0 ≤ L3_140.toInt ∧ L3_140.toInt ≤ 127 from by omega), hP.sub [0, 1, 2, 3, 4, 5, 6, 7] rfl, hD.sub [0, 1, 2, 3, 4, 5, 6, 7] (by decide) rfl, hS, lv_sub hl [0, 1, 2, 3] rfl⟩ (by show (2147483647 - x_161.toInt).toNat < (2147483647 - L3_140.toInt).toNat; omega)
set_option maxHeartbeats 8000000 in
set_option maxRecDepth 100000 in
theorem g_X0_richestSaid (l : Launch) (D : va_G) (cA : Nat → ClassId) (sz : Nat) (h0 : Nat) (b_bundlesFound : Int32) (b_firstBundle : Int32) (b_sets : Int32) (b_qlengths : Nat) (b_qworths0 : Nat) (b_qworths1 : Nat) (g : Nat) (b_clengths : Nat → Int32) (b_cworths0 : Nat → Int32) (b_cworths1 : Nat → Int32) (g_odds : Int32) (g_pot : Int32) (g_lines : Int32) (g_men : Int32) (g_clauses : Int32) (g_winds : Int32) (g_far0 : Int32) (g_far1 : Int32) (g_qsides : Nat) (g_qgrips : Nat) (g_qwits : Nat) (g_qsays : Nat) (g_qgives0 : Nat) (g_qgives1 : Nat) (g_qfroms : Nat) (g_qtos : Nat) (g_csays : Nat → Int32) (g_cgives0 : Nat → Int32) (g_cgives1 : Nat → Int32) (p0 : Int32) (h_g_odds : -999 ≤ (g_odds : Int32).toInt ∧ (g_odds : Int32).toInt ≤ 999) (h_g_pot : -999 ≤ (g_pot : Int32).toInt ∧ (g_pot : Int32).toInt ≤ 999) (h_g_men : 0 ≤ (g_men : Int32).toInt ∧ (g_men : Int32).toInt ≤ 8) (h_g_clauses : 0 ≤ (g_clauses : Int32).toInt ∧ (g_clauses : Int32).toInt ≤ 7) (h_g_winds : 0 ≤ (g_winds : Int32).toInt ∧ (g_winds : Int32).toInt ≤ 4) (h_g_far0 : -999 ≤ (g_far0 : Int32).toInt ∧ (g_far0 : Int32).toInt ≤ 999) (h_g_far1 : -999 ≤ (g_far1 : Int32).toInt ∧ (g_far1 : Int32).toInt ≤ 999) : Met l yX0_richestSaid (Cond.code yX0_richestSaid cX0_richestSaid 4 (some .int) :: TB) (rmd 4 0 0) (PM D cA sz [(h0, .inr (0, [.int b_bundlesFound, .int b_firstBundle, .int b_sets, .ref b_qlengths, .ref b_qworths0, .ref b_qworths1, .ref g])), (b_qlengths, .inl (cA 1, 128, .inl b_clengths)), (b_qworths0, .inl (cA 1, 128, .inl b_cworths0)), (b_qworths1, .inl (cA 1, 128, .inl b_cworths1)), (g, .inr (3, [.int g_odds, .int g_pot, .int g_lines, .int g_men, .int g_clauses, .int g_winds, .int g_far0, .int g_far1, .ref g_qsides, .ref g_qgrips, .ref g_qwits, .ref g_qsays, .ref g_qgives0, .ref g_qgives1, .ref g_qfroms, .ref g_qtos])), (g_qsays, .inl (cA 1, 7, .inl g_csays)), (g_qgives0, .inl (cA 1, 7, .inl g_cgives0)), (g_qgives1, .inl (cA 1, 7, .inl g_cgives1))] [.ref h0, .int p0]) (va_Qi (fun r (u : SU) => (0 ≤ r.toInt ∧ r.toInt ≤ 127) ∧ (1 ≤ (u.2.1 0).toInt ∧ (u.2.1 0).toInt ≤ 128)) (fun u t => va_P D vwCl [(h0, .inr (0, [.int b_bundlesFound, .int b_firstBundle, .int (u.2.1 0), .ref b_qlengths, .ref b_qworths0, .ref b_qworths1, .ref g])), (b_qlengths, .inl (cA 1, 128, .inl (u.2.2.1 0))), (b_qworths0, .inl (cA 1, 128, .inl (u.2.2.1 1))), (b_qworths1, .inl (cA 1, 128, .inl (u.2.2.1 2))), (g, .inr (3, [.int g_odds, .int g_pot, .int g_lines, .int g_men, .int g_clauses, .int g_winds, .int g_far0, .int g_far1, .ref g_qsides, .ref g_qgrips, .ref g_qwits, .ref g_qsays, .ref g_qgives0, .ref g_qgives1, .ref g_qfroms, .ref g_qtos])), (g_qsays, .inl (cA 1, 7, .inl g_csays)), (g_qgives0, .inl (cA 1, 7, .inl g_cgives0)), (g_qgives1, .inl (cA 1, 7, .inl g_cgives1))] t.heap ∧ va_D (va_A [(h0, .inr (0, [.int b_bundlesFound, .int b_firstBundle, .int b_sets, .ref b_qlengths, .ref b_qworths0, .ref b_qworths1, .ref g])), (b_qlengths, .inl (cA 1, 128, .inl b_clengths)), (b_qworths0, .inl (cA 1, 128, .inl b_cworths0)), (b_qworths1, .inl (cA 1, 128, .inl b_cworths1)), (g, .inr (3, [.int g_odds, .int g_pot, .int g_lines, .int g_men, .int g_clauses, .int g_winds, .int g_far0, .int g_far1, .ref g_qsides, .ref g_qgrips, .ref g_qwits, .ref g_qsays, .ref g_qgives0, .ref g_qgives1, .ref g_qfroms, .ref g_qtos])), (g_qsays, .inl (cA 1, 7, .inl g_csays)), (g_qgives0, .inl (cA 1, 7, .inl g_cgives0)), (g_qgives1, .inl (cA 1, 7, .inl g_cgives1))] sz) [(h0, .inr (0, [.int b_bundlesFound, .int b_firstBundle, .int (u.2.1 0), .ref b_qlengths, .ref b_qworths0, .ref b_qworths1, .ref g])), (b_qlengths, .inl (cA 1, 128, .inl (u.2.2.1 0))), (b_qworths0, .inl (cA 1, 128, .inl (u.2.2.1 1))), (b_qworths1, .inl (cA 1, 128, .inl (u.2.2.1 2))), (g, .inr (3, [.int g_odds, .int g_pot, .int g_lines, .int g_men, .int g_clauses, .int g_winds, .int g_far0, .int g_far1, .ref g_qsides, .ref g_qgrips, .ref g_qwits, .ref g_qsays, .ref g_qgives0, .ref g_qgives1, .ref g_qfroms, .ref g_qtos])), (g_qsays, .inl (cA 1, 7, .inl g_csays)), (g_qgives0, .inl (cA 1, 7, .inl g_cgives0)), (g_qgives1, .inl (cA 1, 7, .inl g_cgives1))]) (va_A [(h0, .inr (0, [.int b_bundlesFound, .int b_firstBundle, .int b_sets, .ref b_qlengths, .ref b_qworths0, .ref b_qworths1, .ref g])), (b_qlengths, .inl (cA 1, 128, .inl b_clengths)), (b_qworths0, .inl (cA 1, 128, .inl b_cworths0)), (b_qworths1, .inl (cA 1, 128, .inl b_cworths1)), (g, .inr (3, [.int g_odds, .int g_pot, .int g_lines, .int g_men, .int g_clauses, .int g_winds, .int g_far0, .int g_far1, .ref g_qsides, .ref g_qgrips, .ref g_qwits, .ref g_qsays, .ref g_qgives0, .ref g_qgives1, .ref g_qfroms, .ref g_qtos])), (g_qsays, .inl (cA 1, 7, .inl g_csays)), (g_qgives0, .inl (cA 1, 7, .inl g_cgives0)), (g_qgives1, .inl (cA 1, 7, .inl g_cgives1))] sz)) 0 0 (va_A [(h0, .inr (0, [.int b_bundlesFound, .int b_firstBundle, .int b_sets, .ref b_qlengths, .ref b_qworths0, .ref b_qworths1, .ref g])), (b_qlengths, .inl (cA 1, 128, .inl b_clengths)), (b_qworths0, .inl (cA 1, 128, .inl b_cworths0)), (b_qworths1, .inl (cA 1, 128, .inl b_cworths1)), (g, .inr (3, [.int g_odds, .int g_pot, .int g_lines, .int g_men, .int g_clauses, .int g_winds, .int g_far0, .int g_far1, .ref g_qsides, .ref g_qgrips, .ref g_qwits, .ref g_qsays, .ref g_qgives0, .ref g_qgives1, .ref g_qfroms, .ref g_qtos])), (g_qsays, .inl (cA 1, 7, .inl g_csays)), (g_qgives0, .inl (cA 1, 7, .inl g_cgives0)), (g_qgives1, .inl (cA 1, 7, .inl g_cgives1))] sz) := by
  refine Met.ofW (cc := cX0_richestSaid) (maxL := 4) (ret := (some .int)) (by decide) rfl ?_
  intro p e s m args below meth c s₁ B hml hv
  obtain ⟨rfl, hsz, hP, hKN, hD0⟩ := hv
  have hx := B.exec
  have hb := B.bytes
  have hr := B.returns
  have hts : ∀ w ∈ TB, w.before _ s = true := fun w h => atoms_spec B.pre w (List.mem_cons_of_mem _ h)
  have hown : s.vm.findClass RX0 = some m.cls := findClass_of_methodNamed B.named
  have hlocks := B.notSynchronized
  subst hsz
  have hD := hD0.self (sz := s.heap.size)
  generalize hAe : va_A [(h0, .inr (0, [.int b_bundlesFound, .int b_firstBundle, .int b_sets, .ref b_qlengths, .ref b_qworths0, .ref b_qworths1, .ref g])), (b_qlengths, .inl (cA 1, 128, .inl b_clengths)), (b_qworths0, .inl (cA 1, 128, .inl b_cworths0)), (b_qworths1, .inl (cA 1, 128, .inl b_cworths1)), (g, .inr (3, [.int g_odds, .int g_pot, .int g_lines, .int g_men, .int g_clauses, .int g_winds, .int g_far0, .int g_far1, .ref g_qsides, .ref g_qgrips, .ref g_qwits, .ref g_qsays, .ref g_qgives0, .ref g_qgives1, .ref g_qfroms, .ref g_qtos])), (g_qsays, .inl (cA 1, 7, .inl g_csays)), (g_qgives0, .inl (cA 1, 7, .inl g_cgives0)), (g_qgives1, .inl (cA 1, 7, .inl g_cgives1))] s.heap.size = A at hD ⊢
  have hA : ∀ q : Nat, s.heap.size ≤ q → A q := fun q h => by rw [← hAe]; exact Or.inr h
  have hS : va_S A s.heap s.heap [] := va_S.rf
  have hl := lv_entry ([.ref h0, .int p0]) (n := 4) (Nat.le_of_ble_eq_true rfl)
  rw [lg_entry_eq]
  generalize (lg_sl ([.ref h0, .int p0]) ++ List.replicate (4 - (lg_sl ([.ref h0, .int p0])).length) Slot.unset).toArray = ls at hl ⊢
  have hl : lv_has ls 4 [(0, .ref h0), (1, .int p0)] := hl
  refine lv_aload_n hx hb dX0_richestSaid_0 rfl (lv_at hl 0 rfl) ?_
  refine cmVv (rest := []) (wsC := [(h0, .inr (0, [.int b_bundlesFound, .int b_firstBundle, .int b_sets, .ref b_qlengths, .ref b_qworths0, .ref b_qworths1, .ref g])), (b_qlengths, .inl (cA 1, 128, .inl b_clengths)), (b_qworths0, .inl (cA 1, 128, .inl b_cworths0)), (b_qworths1, .inl (cA 1, 128, .inl b_cworths1)), (g, .inr (3, [.int g_odds, .int g_pot, .int g_lines, .int g_men, .int g_clauses, .int g_winds, .int g_far0, .int g_far1, .ref g_qsides, .ref g_qgrips, .ref g_qwits, .ref g_qsays, .ref g_qgives0, .ref g_qgives1, .ref g_qfroms, .ref g_qtos])), (g_qsays, .inl (cA 1, 7, .inl g_csays)), (g_qgives0, .inl (cA 1, 7, .inl g_cgives0)), (g_qgives1, .inl (cA 1, 7, .inl g_cgives1))]) (wr := []) ⟨hx, hb, hml, hown, hts⟩ hKN hP hD hS hA [0, 1, 2, 3, 4, 5, 6, 7] [] rfl rfl (by decide) (by decide) (by decide) (g_X0_weighSets l D cA _ h0 b_bundlesFound b_firstBundle b_sets b_qlengths b_qworths0 b_qworths1 g b_clengths b_cworths0 b_cworths1 g_odds g_pot g_lines g_men g_clauses g_winds g_far0 g_far1 g_qsides g_qgrips g_qwits g_qsays g_qgives0 g_qgives1 g_qfroms g_qtos g_csays g_cgives0 g_cgives1 (by omega) (by omega) (by omega) (by omega) (by omega) (by omega) (by omega)) (tb_V tw_1047 tw_1049 tw_22 tw_112 tw_1050) hdX0_weighSets ⟨rfl, rfl, Nat.le_of_ble_eq_true rfl, Nat.le_of_ble_eq_true rfl⟩ ⟨Nat.le_of_ble_eq_true rfl, Nat.le_of_ble_eq_true rfl⟩ rfl rfl rfl hl.1 rfl (Nat.le_of_ble_eq_true rfl) dX0_richestSaid_1 (fun u_1 H locs hr_1 hP hD hS => ?_)
  have hP : va_P D vwCl [(h0, .inr (0, [.int b_bundlesFound, .int b_firstBundle, .int (u_1.2.1 0), .ref b_qlengths, .ref b_qworths0, .ref b_qworths1, .ref g])), (b_qlengths, .inl (cA 1, 128, .inl (u_1.2.2.1 0))), (b_qworths0, .inl (cA 1, 128, .inl (u_1.2.2.1 1))), (b_qworths1, .inl (cA 1, 128, .inl (u_1.2.2.1 2))), (g, .inr (3, [.int g_odds, .int g_pot, .int g_lines, .int g_men, .int g_clauses, .int g_winds, .int g_far0, .int g_far1, .ref g_qsides, .ref g_qgrips, .ref g_qwits, .ref g_qsays, .ref g_qgives0, .ref g_qgives1, .ref g_qfroms, .ref g_qtos])), (g_qsays, .inl (cA 1, 7, .inl g_csays)), (g_qgives0, .inl (cA 1, 7, .inl g_cgives0)), (g_qgives1, .inl (cA 1, 7, .inl g_cgives1))] H := hP
  have hD : va_D A [(h0, .inr (0, [.int b_bundlesFound, .int b_firstBundle, .int (u_1.2.1 0), .ref b_qlengths, .ref b_qworths0, .ref b_qworths1, .ref g])), (b_qlengths, .inl (cA 1, 128, .inl (u_1.2.2.1 0))), (b_qworths0, .inl (cA 1, 128, .inl (u_1.2.2.1 1))), (b_qworths1, .inl (cA 1, 128, .inl (u_1.2.2.1 2))), (g, .inr (3, [.int g_odds, .int g_pot, .int g_lines, .int g_men, .int g_clauses, .int g_winds, .int g_far0, .int g_far1, .ref g_qsides, .ref g_qgrips, .ref g_qwits, .ref g_qsays, .ref g_qgives0, .ref g_qgives1, .ref g_qfroms, .ref g_qtos])), (g_qsays, .inl (cA 1, 7, .inl g_csays)), (g_qgives0, .inl (cA 1, 7, .inl g_cgives0)), (g_qgives1, .inl (cA 1, 7, .inl g_cgives1))] := hD
  have hr_1_0 := hr_1
  refine lv_iconst (v := 0) hx hb dX0_richestSaid_4 (by decide) ?_
  refine lv_istore_n (lv' := [(2, .int 0), (0, .ref h0), (1, .int p0)]) hx hb dX0_richestSaid_5 rfl hl (by decide) rfl (fun ls hl => ?_)
  refine lv_iconst (v := 0) hx hb dX0_richestSaid_6 (by decide) ?_
  refine lv_istore_n (lv' := [(3, .int 0), (2, .int 0), (0, .ref h0), (1, .int p0)]) hx hb dX0_richestSaid_7 rfl hl (by decide) rfl (fun ls hl => ?_)
  refine loopW (σ := Int32 × Int32) (fun _ => []) (fun ⟨L3_164, L2_164⟩ H locs ls => (0 ≤ L3_164.toInt ∧ L3_164.toInt ≤ 128) ∧ (0 ≤ L2_164.toInt ∧ L2_164.toInt ≤ 127) ∧ va_P D vwCl [(h0, .inr (0, [.int b_bundlesFound, .int b_firstBundle, .int (u_1.2.1 0), .ref b_qlengths, .ref b_qworths0, .ref b_qworths1, .ref g])), (b_qlengths, .inl (cA 1, 128, .inl (u_1.2.2.1 0))), (b_qworths0, .inl (cA 1, 128, .inl (u_1.2.2.1 1))), (b_qworths1, .inl (cA 1, 128, .inl (u_1.2.2.1 2))), (g, .inr (3, [.int g_odds, .int g_pot, .int g_lines, .int g_men, .int g_clauses, .int g_winds, .int g_far0, .int g_far1, .ref g_qsides, .ref g_qgrips, .ref g_qwits, .ref g_qsays, .ref g_qgives0, .ref g_qgives1, .ref g_qfroms, .ref g_qtos])), (g_qsays, .inl (cA 1, 7, .inl g_csays)), (g_qgives0, .inl (cA 1, 7, .inl g_cgives0)), (g_qgives1, .inl (cA 1, 7, .inl g_cgives1))] H ∧ va_D A [(h0, .inr (0, [.int b_bundlesFound, .int b_firstBundle, .int (u_1.2.1 0), .ref b_qlengths, .ref b_qworths0, .ref b_qworths1, .ref g])), (b_qlengths, .inl (cA 1, 128, .inl (u_1.2.2.1 0))), (b_qworths0, .inl (cA 1, 128, .inl (u_1.2.2.1 1))), (b_qworths1, .inl (cA 1, 128, .inl (u_1.2.2.1 2))), (g, .inr (3, [.int g_odds, .int g_pot, .int g_lines, .int g_men, .int g_clauses, .int g_winds, .int g_far0, .int g_far1, .ref g_qsides, .ref g_qgrips, .ref g_qwits, .ref g_qsays, .ref g_qgives0, .ref g_qgives1, .ref g_qfroms, .ref g_qtos])), (g_qsays, .inl (cA 1, 7, .inl g_csays)), (g_qgives0, .inl (cA 1, 7, .inl g_cgives0)), (g_qgives1, .inl (cA 1, 7, .inl g_cgives1))] ∧ va_S A s.heap H locs ∧ lv_has ls 4 [(3, .int L3_164), (2, .int L2_164), (0, .ref h0), (1, .int p0)]) (fun ⟨L3_164, L2_164⟩ => (2147483647 - L3_164.toInt).toNat) ?_ ((0, 0) : Int32 × Int32) ⟨(by decide), (by decide), hP, hD, hS, hl⟩
  intro x_164 H locs ls hI_164 ih_164
  obtain ⟨L3_164, L2_164⟩ := x_164
  obtain ⟨k0_164, k1_164, hP, hD, hS, hl⟩ := hI_164
  have hP : va_P D vwCl [(h0, .inr (0, [.int b_bundlesFound, .int b_firstBundle, .int (u_1.2.1 0), .ref b_qlengths, .ref b_qworths0, .ref b_qworths1, .ref g])), (b_qlengths, .inl (cA 1, 128, .inl (u_1.2.2.1 0))), (b_qworths0, .inl (cA 1, 128, .inl (u_1.2.2.1 1))), (b_qworths1, .inl (cA 1, 128, .inl (u_1.2.2.1 2))), (g, .inr (3, [.int g_odds, .int g_pot, .int g_lines, .int g_men, .int g_clauses, .int g_winds, .int g_far0, .int g_far1, .ref g_qsides, .ref g_qgrips, .ref g_qwits, .ref g_qsays, .ref g_qgives0, .ref g_qgives1, .ref g_qfroms, .ref g_qtos])), (g_qsays, .inl (cA 1, 7, .inl g_csays)), (g_qgives0, .inl (cA 1, 7, .inl g_cgives0)), (g_qgives1, .inl (cA 1, 7, .inl g_cgives1))] H := hP
  have hD : va_D A [(h0, .inr (0, [.int b_bundlesFound, .int b_firstBundle, .int (u_1.2.1 0), .ref b_qlengths, .ref b_qworths0, .ref b_qworths1, .ref g])), (b_qlengths, .inl (cA 1, 128, .inl (u_1.2.2.1 0))), (b_qworths0, .inl (cA 1, 128, .inl (u_1.2.2.1 1))), (b_qworths1, .inl (cA 1, 128, .inl (u_1.2.2.1 2))), (g, .inr (3, [.int g_odds, .int g_pot, .int g_lines, .int g_men, .int g_clauses, .int g_winds, .int g_far0, .int g_far1, .ref g_qsides, .ref g_qgrips, .ref g_qwits, .ref g_qsays, .ref g_qgives0, .ref g_qgives1, .ref g_qfroms, .ref g_qtos])), (g_qsays, .inl (cA 1, 7, .inl g_csays)), (g_qgives0, .inl (cA 1, 7, .inl g_cgives0)), (g_qgives1, .inl (cA 1, 7, .inl g_cgives1))] := hD
  have hl : lv_has ls 4 [(3, .int L3_164), (2, .int L2_164), (0, .ref h0), (1, .int p0)] := hl
  refine lv_iload_n hx hb dX0_richestSaid_8 rfl (lv_at hl 0 rfl) ?_
  refine lv_aload_n hx hb dX0_richestSaid_9 rfl (lv_at hl 2 rfl) ?_
  refine va_get (D := D) (ci := 0) (v := .int (u_1.2.1 0)) (C := RX0) (T := TX0) (N := 7) hx hb hts inX0 hown hKN.1 hP 0 rfl rfl 2 (by decide) (hts _ tw_421) (fun _ h9 => h9) rfl dX0_richestSaid_10 ?_
  refine lv_icmp_ge (tgt := 47) hx hb dX0_richestSaid_13 (by decide) (fun c_165 => ?_) (fun c_165 => ?_)
  · skip
    have k_166 := kk_le rfl rfl c_165
    refine lv_iload_n hx hb dX0_richestSaid_47 rfl (lv_at hl 1 rfl) ?_
    have hP9 := hP.sub (ws' := [(h0, .inr (0, [.int b_bundlesFound, .int b_firstBundle, .int (u_1.2.1 0), .ref b_qlengths, .ref b_qworths0, .ref b_qworths1, .ref g])), (b_qlengths, .inl (cA 1, 128, .inl (u_1.2.2.1 0))), (b_qworths0, .inl (cA 1, 128, .inl (u_1.2.2.1 1))), (b_qworths1, .inl (cA 1, 128, .inl (u_1.2.2.1 2))), (g, .inr (3, [.int g_odds, .int g_pot, .int g_lines, .int g_men, .int g_clauses, .int g_winds, .int g_far0, .int g_far1, .ref g_qsides, .ref g_qgrips, .ref g_qwits, .ref g_qsays, .ref g_qgives0, .ref g_qgives1, .ref g_qfroms, .ref g_qtos])), (g_qsays, .inl (cA 1, 7, .inl g_csays)), (g_qgives0, .inl (cA 1, 7, .inl g_cgives0)), (g_qgives1, .inl (cA 1, 7, .inl g_cgives1))]) [0, 1, 2, 3, 4, 5, 6, 7] rfl
    have hD9 := hD.sub (ws' := [(h0, .inr (0, [.int b_bundlesFound, .int b_firstBundle, .int (u_1.2.1 0), .ref b_qlengths, .ref b_qworths0, .ref b_qworths1, .ref g])), (b_qlengths, .inl (cA 1, 128, .inl (u_1.2.2.1 0))), (b_qworths0, .inl (cA 1, 128, .inl (u_1.2.2.1 1))), (b_qworths1, .inl (cA 1, 128, .inl (u_1.2.2.1 2))), (g, .inr (3, [.int g_odds, .int g_pot, .int g_lines, .int g_men, .int g_clauses, .int g_winds, .int g_far0, .int g_far1, .ref g_qsides, .ref g_qgrips, .ref g_qwits, .ref g_qsays, .ref g_qgives0, .ref g_qgives1, .ref g_qfroms, .ref g_qtos])), (g_qsays, .inl (cA 1, 7, .inl g_csays)), (g_qgives0, .inl (cA 1, 7, .inl g_cgives0)), (g_qgives1, .inl (cA 1, 7, .inl g_cgives1))]) [0, 1, 2, 3, 4, 5, 6, 7] (by decide) rfl
    exact W.iret (v := L2_164) hx hb hr (fun t ht hW => ⟨⟨L2_164, ((fun _ => 0), (selI [(u_1.2.1 0)]), (selF [(u_1.2.2.1 0), (u_1.2.2.1 1), (u_1.2.2.1 2)]), (fun _ _ => 0)), rfl, ⟨(show 0 ≤ L2_164.toInt ∧ L2_164.toInt ≤ 127 from by omega), (show 1 ≤ (u_1.2.1 0).toInt ∧ (u_1.2.1 0).toInt ≤ 128 from by omega)⟩, by rw [ht]; exact hP9, hD9⟩, hS.F ht⟩) hS.2.2 dX0_richestSaid_48
  · skip
    have k_167 := kk_nle rfl rfl c_165
    refine lv_aload_n hx hb dX0_richestSaid_16 rfl (lv_at hl 2 rfl) ?_
    refine va_get (D := D) (ci := 0) (v := .ref b_qlengths) (C := RX0) (T := TX0) (N := 7) hx hb hts inX0 hown hKN.1 hP 0 rfl rfl 3 (by decide) (hts _ tw_422) (fun _ h9 => h9) rfl dX0_richestSaid_17 ?_
    refine lv_iload_n hx hb dX0_richestSaid_20 rfl (lv_at hl 0 rfl) ?_
    refine va_iald hx hb hKN.1 hP 1 1 rfl rfl (vp_in_iff.mpr ⟨by omega, by omega⟩) dX0_richestSaid_21 ?_
    refine lv_topi (fun x_168 ex_168 => ?_)
    refine lv_iload_n hx hb dX0_richestSaid_22 rfl (lv_at hl 3 rfl) ?_
    refine lv_icmp_gt (tgt := 41) hx hb dX0_richestSaid_23 (by decide) (fun c_169 => ?_) (fun c_169 => ?_)
    · skip
      have b_171 := i32_bd p0
      have b_172 := i32_bd x_168
      have k_170 := kk_lt rfl rfl c_169
      obtain ⟨x_173, ex_173⟩ : ∃ y : Int32, L3_164 + Int32.ofInt 1 = y := ⟨_, rfl⟩
      have k_174 := ar_add (b := 1) rfl zi_1 ex_173.symm (by omega) (by omega)
      refine lv_iinc (v := x_173) (lv' := [(3, .int x_173), (2, .int L2_164), (0, .ref h0), (1, .int p0)]) hx hb dX0_richestSaid_41 hl (k := 0) rfl ex_173 (by decide) rfl (fun ls hl => ?_)
      refine lv_goto (tgt := 8) hx hb dX0_richestSaid_44 (by decide) ?_
      exact ih_164 (x_173, L2_164) _ _ _ ⟨(show 0 ≤ x_173.toInt ∧ x_173.toInt ≤ 128 from by omega), (show 0 ≤ L2_164.toInt ∧ L2_164.toInt ≤ 127 from by omega), hP.sub [0, 1, 2, 3, 4, 5, 6, 7] rfl, hD.sub [0, 1, 2, 3, 4, 5, 6, 7] (by decide) rfl, hS, lv_sub hl [0, 1, 2, 3] rfl⟩ (by show (2147483647 - x_173.toInt).toNat < (2147483647 - L3_164.toInt).toNat; omega)
    · skip
      have b_176 := i32_bd p0
      have b_177 := i32_bd x_168
      have k_175 := kk_nlt rfl rfl c_169
      refine lv_aload_n hx hb dX0_richestSaid_26 rfl (lv_at hl 2 rfl) ?_
      refine lv_iload_n hx hb dX0_richestSaid_27 rfl (lv_at hl 0 rfl) ?_
      refine cpVi (rest := []) ⟨hx, hb, hml, hown, hts⟩ hKN (hP.sub (ws' := [(h0, .inr (0, [.int b_bundlesFound, .int b_firstBundle, .int (u_1.2.1 0), .ref b_qlengths, .ref b_qworths0, .ref b_qworths1, .ref g])), (g, .inr (3, [.int g_odds, .int g_pot, .int g_lines, .int g_men, .int g_clauses, .int g_winds, .int g_far0, .int g_far1, .ref g_qsides, .ref g_qgrips, .ref g_qwits, .ref g_qsays, .ref g_qgives0, .ref g_qgives1, .ref g_qfroms, .ref g_qtos])), (g_qgives0, .inl (cA 1, 7, .inl g_cgives0)), (g_qgives1, .inl (cA 1, 7, .inl g_cgives1))]) [0, 4, 6, 7] rfl) (g_X0_worthOfBoth l D cA h0 b_bundlesFound b_firstBundle (u_1.2.1 0) b_qlengths b_qworths0 b_qworths1 g g_odds g_pot g_lines g_men g_clauses g_winds g_far0 g_far1 g_qsides g_qgrips g_qwits g_qsays g_qgives0 g_qgives1 g_qfroms g_qtos g_cgives0 g_cgives1 L3_164 (by omega) (by omega) (by omega) (by omega) (by omega) (by omega) (by omega)) (tb_V tw_1074 tw_1075 tw_1076 tw_112 tw_1077) hdX0_worthOfBoth ⟨rfl, rfl, Nat.le_of_ble_eq_true rfl, Nat.le_of_ble_eq_true rfl⟩ ⟨Nat.le_of_ble_eq_true rfl, Nat.le_of_ble_eq_true rfl⟩ rfl rfl rfl hl.1 rfl (Nat.le_of_ble_eq_true rfl) dX0_richestSaid_28 (fun r_178 hr_178 => ?_)
      refine lv_aload_n hx hb dX0_richestSaid_31 rfl (lv_at hl 2 rfl) ?_
      refine lv_iload_n hx hb dX0_richestSaid_32 rfl (lv_at hl 1 rfl) ?_
      refine cpVi (rest := [.int r_178]) ⟨hx, hb, hml, hown, hts⟩ hKN (hP.sub (ws' := [(h0, .inr (0, [.int b_bundlesFound, .int b_firstBundle, .int (u_1.2.1 0), .ref b_qlengths, .ref b_qworths0, .ref b_qworths1, .ref g])), (g, .inr (3, [.int g_odds, .int g_pot, .int g_lines, .int g_men, .int g_clauses, .int g_winds, .int g_far0, .int g_far1, .ref g_qsides, .ref g_qgrips, .ref g_qwits, .ref g_qsays, .ref g_qgives0, .ref g_qgives1, .ref g_qfroms, .ref g_qtos])), (g_qgives0, .inl (cA 1, 7, .inl g_cgives0)), (g_qgives1, .inl (cA 1, 7, .inl g_cgives1))]) [0, 4, 6, 7] rfl) (g_X0_worthOfBoth l D cA h0 b_bundlesFound b_firstBundle (u_1.2.1 0) b_qlengths b_qworths0 b_qworths1 g g_odds g_pot g_lines g_men g_clauses g_winds g_far0 g_far1 g_qsides g_qgrips g_qwits g_qsays g_qgives0 g_qgives1 g_qfroms g_qtos g_cgives0 g_cgives1 L2_164 (by omega) (by omega) (by omega) (by omega) (by omega) (by omega) (by omega)) (tb_V tw_1074 tw_1075 tw_1076 tw_112 tw_1077) hdX0_worthOfBoth ⟨rfl, rfl, Nat.le_of_ble_eq_true rfl, Nat.le_of_ble_eq_true rfl⟩ ⟨Nat.le_of_ble_eq_true rfl, Nat.le_of_ble_eq_true rfl⟩ rfl rfl rfl hl.1 rfl (Nat.le_of_ble_eq_true rfl) dX0_richestSaid_33 (fun r_179 hr_179 => ?_)
      refine lv_icmp_le (tgt := 41) hx hb dX0_richestSaid_36 (by decide) (fun c_180 => ?_) (fun c_180 => ?_)
      · skip
        have b_182 := i32_bd r_178
        have b_183 := i32_bd r_179
        have k_181 := kk_le rfl rfl c_180
        obtain ⟨x_184, ex_184⟩ : ∃ y : Int32, L3_164 + Int32.ofInt 1 = y := ⟨_, rfl⟩
        have k_185 := ar_add (b := 1) rfl zi_1 ex_184.symm (by omega) (by omega)
        refine lv_iinc (v := x_184) (lv' := [(3, .int x_184), (2, .int L2_164), (0, .ref h0), (1, .int p0)]) hx hb dX0_richestSaid_41 hl (k := 0) rfl ex_184 (by decide) rfl (fun ls hl => ?_)
        refine lv_goto (tgt := 8) hx hb dX0_richestSaid_44 (by decide) ?_
        exact ih_164 (x_184, L2_164) _ _ _ ⟨(show 0 ≤ x_184.toInt ∧ x_184.toInt ≤ 128 from by omega), (show 0 ≤ L2_164.toInt ∧ L2_164.toInt ≤ 127 from by omega), hP.sub [0, 1, 2, 3, 4, 5, 6, 7] rfl, hD.sub [0, 1, 2, 3, 4, 5, 6, 7] (by decide) rfl, hS, lv_sub hl [0, 1, 2, 3] rfl⟩ (by show (2147483647 - x_184.toInt).toNat < (2147483647 - L3_164.toInt).toNat; omega)
      · skip
        have b_187 := i32_bd r_178
        have b_188 := i32_bd r_179
        have k_186 := kk_nle rfl rfl c_180
        refine lv_iload_n hx hb dX0_richestSaid_39 rfl (lv_at hl 0 rfl) ?_
        refine lv_istore_n (lv' := [(2, .int L3_164), (3, .int L3_164), (0, .ref h0), (1, .int p0)]) hx hb dX0_richestSaid_40 rfl hl (by decide) rfl (fun ls hl => ?_)
        obtain ⟨x_189, ex_189⟩ : ∃ y : Int32, L3_164 + Int32.ofInt 1 = y := ⟨_, rfl⟩
        have k_190 := ar_add (b := 1) rfl zi_1 ex_189.symm (by omega) (by omega)
        refine lv_iinc (v := x_189) (lv' := [(3, .int x_189), (2, .int L3_164), (0, .ref h0), (1, .int p0)]) hx hb dX0_richestSaid_41 hl (k := 1) rfl ex_189 (by decide) rfl (fun ls hl => ?_)
        refine lv_goto (tgt := 8) hx hb dX0_richestSaid_44 (by decide) ?_
        exact ih_164 (x_189, L3_164) _ _ _ ⟨(show 0 ≤ x_189.toInt ∧ x_189.toInt ≤ 128 from by omega), (show 0 ≤ L3_164.toInt ∧ L3_164.toInt ≤ 127 from by omega), hP.sub [0, 1, 2, 3, 4, 5, 6, 7] rfl, hD.sub [0, 1, 2, 3, 4, 5, 6, 7] (by decide) rfl, hS, lv_sub hl [0, 1, 2, 3] rfl⟩ (by show (2147483647 - x_189.toInt).toNat < (2147483647 - L3_164.toInt).toNat; omega)
set_option maxHeartbeats 8000000 in
set_option maxRecDepth 100000 in
theorem g_X0_signedSets (l : Launch) (D : va_G) (cA : Nat → ClassId) (sz : Nat) (h0 : Nat) (b_bundlesFound : Int32) (b_firstBundle : Int32) (b_sets : Int32) (b_qlengths : Nat) (b_qworths0 : Nat) (b_qworths1 : Nat) (g : Nat) (b_clengths : Nat → Int32) (b_cworths0 : Nat → Int32) (b_cworths1 : Nat → Int32) (g_odds : Int32) (g_pot : Int32) (g_lines : Int32) (g_men : Int32) (g_clauses : Int32) (g_winds : Int32) (g_far0 : Int32) (g_far1 : Int32) (g_qsides : Nat) (g_qgrips : Nat) (g_qwits : Nat) (g_qsays : Nat) (g_qgives0 : Nat) (g_qgives1 : Nat) (g_qfroms : Nat) (g_qtos : Nat) (g_csays : Nat → Int32) (g_cgives0 : Nat → Int32) (g_cgives1 : Nat → Int32) (h_g_odds : -999 ≤ (g_odds : Int32).toInt ∧ (g_odds : Int32).toInt ≤ 999) (h_g_pot : -999 ≤ (g_pot : Int32).toInt ∧ (g_pot : Int32).toInt ≤ 999) (h_g_men : 0 ≤ (g_men : Int32).toInt ∧ (g_men : Int32).toInt ≤ 8) (h_g_clauses : 0 ≤ (g_clauses : Int32).toInt ∧ (g_clauses : Int32).toInt ≤ 7) (h_g_winds : 0 ≤ (g_winds : Int32).toInt ∧ (g_winds : Int32).toInt ≤ 4) (h_g_far0 : -999 ≤ (g_far0 : Int32).toInt ∧ (g_far0 : Int32).toInt ≤ 999) (h_g_far1 : -999 ≤ (g_far1 : Int32).toInt ∧ (g_far1 : Int32).toInt ≤ 999) : Met l yX0_signedSets (Cond.code yX0_signedSets cX0_signedSets 3 (some .int) :: TB) (rmd 3 0 0) (PM D cA sz [(h0, .inr (0, [.int b_bundlesFound, .int b_firstBundle, .int b_sets, .ref b_qlengths, .ref b_qworths0, .ref b_qworths1, .ref g])), (b_qlengths, .inl (cA 1, 128, .inl b_clengths)), (b_qworths0, .inl (cA 1, 128, .inl b_cworths0)), (b_qworths1, .inl (cA 1, 128, .inl b_cworths1)), (g, .inr (3, [.int g_odds, .int g_pot, .int g_lines, .int g_men, .int g_clauses, .int g_winds, .int g_far0, .int g_far1, .ref g_qsides, .ref g_qgrips, .ref g_qwits, .ref g_qsays, .ref g_qgives0, .ref g_qgives1, .ref g_qfroms, .ref g_qtos])), (g_qsays, .inl (cA 1, 7, .inl g_csays)), (g_qgives0, .inl (cA 1, 7, .inl g_cgives0)), (g_qgives1, .inl (cA 1, 7, .inl g_cgives1))] [.ref h0]) (va_Qi (fun r (u : SU) => (1 ≤ (u.2.1 0).toInt ∧ (u.2.1 0).toInt ≤ 128)) (fun u t => va_P D vwCl [(h0, .inr (0, [.int b_bundlesFound, .int b_firstBundle, .int (u.2.1 0), .ref b_qlengths, .ref b_qworths0, .ref b_qworths1, .ref g])), (b_qlengths, .inl (cA 1, 128, .inl (u.2.2.1 0))), (b_qworths0, .inl (cA 1, 128, .inl (u.2.2.1 1))), (b_qworths1, .inl (cA 1, 128, .inl (u.2.2.1 2))), (g, .inr (3, [.int g_odds, .int g_pot, .int g_lines, .int g_men, .int g_clauses, .int g_winds, .int g_far0, .int g_far1, .ref g_qsides, .ref g_qgrips, .ref g_qwits, .ref g_qsays, .ref g_qgives0, .ref g_qgives1, .ref g_qfroms, .ref g_qtos])), (g_qsays, .inl (cA 1, 7, .inl g_csays)), (g_qgives0, .inl (cA 1, 7, .inl g_cgives0)), (g_qgives1, .inl (cA 1, 7, .inl g_cgives1))] t.heap ∧ va_D (va_A [(h0, .inr (0, [.int b_bundlesFound, .int b_firstBundle, .int b_sets, .ref b_qlengths, .ref b_qworths0, .ref b_qworths1, .ref g])), (b_qlengths, .inl (cA 1, 128, .inl b_clengths)), (b_qworths0, .inl (cA 1, 128, .inl b_cworths0)), (b_qworths1, .inl (cA 1, 128, .inl b_cworths1)), (g, .inr (3, [.int g_odds, .int g_pot, .int g_lines, .int g_men, .int g_clauses, .int g_winds, .int g_far0, .int g_far1, .ref g_qsides, .ref g_qgrips, .ref g_qwits, .ref g_qsays, .ref g_qgives0, .ref g_qgives1, .ref g_qfroms, .ref g_qtos])), (g_qsays, .inl (cA 1, 7, .inl g_csays)), (g_qgives0, .inl (cA 1, 7, .inl g_cgives0)), (g_qgives1, .inl (cA 1, 7, .inl g_cgives1))] sz) [(h0, .inr (0, [.int b_bundlesFound, .int b_firstBundle, .int (u.2.1 0), .ref b_qlengths, .ref b_qworths0, .ref b_qworths1, .ref g])), (b_qlengths, .inl (cA 1, 128, .inl (u.2.2.1 0))), (b_qworths0, .inl (cA 1, 128, .inl (u.2.2.1 1))), (b_qworths1, .inl (cA 1, 128, .inl (u.2.2.1 2))), (g, .inr (3, [.int g_odds, .int g_pot, .int g_lines, .int g_men, .int g_clauses, .int g_winds, .int g_far0, .int g_far1, .ref g_qsides, .ref g_qgrips, .ref g_qwits, .ref g_qsays, .ref g_qgives0, .ref g_qgives1, .ref g_qfroms, .ref g_qtos])), (g_qsays, .inl (cA 1, 7, .inl g_csays)), (g_qgives0, .inl (cA 1, 7, .inl g_cgives0)), (g_qgives1, .inl (cA 1, 7, .inl g_cgives1))]) (va_A [(h0, .inr (0, [.int b_bundlesFound, .int b_firstBundle, .int b_sets, .ref b_qlengths, .ref b_qworths0, .ref b_qworths1, .ref g])), (b_qlengths, .inl (cA 1, 128, .inl b_clengths)), (b_qworths0, .inl (cA 1, 128, .inl b_cworths0)), (b_qworths1, .inl (cA 1, 128, .inl b_cworths1)), (g, .inr (3, [.int g_odds, .int g_pot, .int g_lines, .int g_men, .int g_clauses, .int g_winds, .int g_far0, .int g_far1, .ref g_qsides, .ref g_qgrips, .ref g_qwits, .ref g_qsays, .ref g_qgives0, .ref g_qgives1, .ref g_qfroms, .ref g_qtos])), (g_qsays, .inl (cA 1, 7, .inl g_csays)), (g_qgives0, .inl (cA 1, 7, .inl g_cgives0)), (g_qgives1, .inl (cA 1, 7, .inl g_cgives1))] sz)) 0 0 (va_A [(h0, .inr (0, [.int b_bundlesFound, .int b_firstBundle, .int b_sets, .ref b_qlengths, .ref b_qworths0, .ref b_qworths1, .ref g])), (b_qlengths, .inl (cA 1, 128, .inl b_clengths)), (b_qworths0, .inl (cA 1, 128, .inl b_cworths0)), (b_qworths1, .inl (cA 1, 128, .inl b_cworths1)), (g, .inr (3, [.int g_odds, .int g_pot, .int g_lines, .int g_men, .int g_clauses, .int g_winds, .int g_far0, .int g_far1, .ref g_qsides, .ref g_qgrips, .ref g_qwits, .ref g_qsays, .ref g_qgives0, .ref g_qgives1, .ref g_qfroms, .ref g_qtos])), (g_qsays, .inl (cA 1, 7, .inl g_csays)), (g_qgives0, .inl (cA 1, 7, .inl g_cgives0)), (g_qgives1, .inl (cA 1, 7, .inl g_cgives1))] sz) := by
  refine Met.ofW (cc := cX0_signedSets) (maxL := 3) (ret := (some .int)) (by decide) rfl ?_
  intro p e s m args below meth c s₁ B hml hv
  obtain ⟨rfl, hsz, hP, hKN, hD0⟩ := hv
  have hx := B.exec
  have hb := B.bytes
  have hr := B.returns
  have hts : ∀ w ∈ TB, w.before _ s = true := fun w h => atoms_spec B.pre w (List.mem_cons_of_mem _ h)
  have hown : s.vm.findClass RX0 = some m.cls := findClass_of_methodNamed B.named
  have hlocks := B.notSynchronized
  subst hsz
  have hD := hD0.self (sz := s.heap.size)
  generalize hAe : va_A [(h0, .inr (0, [.int b_bundlesFound, .int b_firstBundle, .int b_sets, .ref b_qlengths, .ref b_qworths0, .ref b_qworths1, .ref g])), (b_qlengths, .inl (cA 1, 128, .inl b_clengths)), (b_qworths0, .inl (cA 1, 128, .inl b_cworths0)), (b_qworths1, .inl (cA 1, 128, .inl b_cworths1)), (g, .inr (3, [.int g_odds, .int g_pot, .int g_lines, .int g_men, .int g_clauses, .int g_winds, .int g_far0, .int g_far1, .ref g_qsides, .ref g_qgrips, .ref g_qwits, .ref g_qsays, .ref g_qgives0, .ref g_qgives1, .ref g_qfroms, .ref g_qtos])), (g_qsays, .inl (cA 1, 7, .inl g_csays)), (g_qgives0, .inl (cA 1, 7, .inl g_cgives0)), (g_qgives1, .inl (cA 1, 7, .inl g_cgives1))] s.heap.size = A at hD ⊢
  have hA : ∀ q : Nat, s.heap.size ≤ q → A q := fun q h => by rw [← hAe]; exact Or.inr h
  have hS : va_S A s.heap s.heap [] := va_S.rf
  have hl := lv_entry ([.ref h0]) (n := 3) (Nat.le_of_ble_eq_true rfl)
  rw [lg_entry_eq]
  generalize (lg_sl ([.ref h0]) ++ List.replicate (3 - (lg_sl ([.ref h0])).length) Slot.unset).toArray = ls at hl ⊢
  have hl : lv_has ls 3 [(0, .ref h0)] := hl
  refine lv_aload_n hx hb dX0_signedSets_0 rfl (lv_at hl 0 rfl) ?_
  refine cmVv (rest := []) (wsC := [(h0, .inr (0, [.int b_bundlesFound, .int b_firstBundle, .int b_sets, .ref b_qlengths, .ref b_qworths0, .ref b_qworths1, .ref g])), (b_qlengths, .inl (cA 1, 128, .inl b_clengths)), (b_qworths0, .inl (cA 1, 128, .inl b_cworths0)), (b_qworths1, .inl (cA 1, 128, .inl b_cworths1)), (g, .inr (3, [.int g_odds, .int g_pot, .int g_lines, .int g_men, .int g_clauses, .int g_winds, .int g_far0, .int g_far1, .ref g_qsides, .ref g_qgrips, .ref g_qwits, .ref g_qsays, .ref g_qgives0, .ref g_qgives1, .ref g_qfroms, .ref g_qtos])), (g_qsays, .inl (cA 1, 7, .inl g_csays)), (g_qgives0, .inl (cA 1, 7, .inl g_cgives0)), (g_qgives1, .inl (cA 1, 7, .inl g_cgives1))]) (wr := []) ⟨hx, hb, hml, hown, hts⟩ hKN hP hD hS hA [0, 1, 2, 3, 4, 5, 6, 7] [] rfl rfl (by decide) (by decide) (by decide) (g_X0_weighSets l D cA _ h0 b_bundlesFound b_firstBundle b_sets b_qlengths b_qworths0 b_qworths1 g b_clengths b_cworths0 b_cworths1 g_odds g_pot g_lines g_men g_clauses g_winds g_far0 g_far1 g_qsides g_qgrips g_qwits g_qsays g_qgives0 g_qgives1 g_qfroms g_qtos g_csays g_cgives0 g_cgives1 (by omega) (by omega) (by omega) (by omega) (by omega) (by omega) (by omega)) (tb_V tw_1047 tw_1049 tw_22 tw_112 tw_1050) hdX0_weighSets ⟨rfl, rfl, Nat.le_of_ble_eq_true rfl, Nat.le_of_ble_eq_true rfl⟩ ⟨Nat.le_of_ble_eq_true rfl, Nat.le_of_ble_eq_true rfl⟩ rfl rfl rfl hl.1 rfl (Nat.le_of_ble_eq_true rfl) dX0_signedSets_1 (fun u_1 H locs hr_1 hP hD hS => ?_)
  have hP : va_P D vwCl [(h0, .inr (0, [.int b_bundlesFound, .int b_firstBundle, .int (u_1.2.1 0), .ref b_qlengths, .ref b_qworths0, .ref b_qworths1, .ref g])), (b_qlengths, .inl (cA 1, 128, .inl (u_1.2.2.1 0))), (b_qworths0, .inl (cA 1, 128, .inl (u_1.2.2.1 1))), (b_qworths1, .inl (cA 1, 128, .inl (u_1.2.2.1 2))), (g, .inr (3, [.int g_odds, .int g_pot, .int g_lines, .int g_men, .int g_clauses, .int g_winds, .int g_far0, .int g_far1, .ref g_qsides, .ref g_qgrips, .ref g_qwits, .ref g_qsays, .ref g_qgives0, .ref g_qgives1, .ref g_qfroms, .ref g_qtos])), (g_qsays, .inl (cA 1, 7, .inl g_csays)), (g_qgives0, .inl (cA 1, 7, .inl g_cgives0)), (g_qgives1, .inl (cA 1, 7, .inl g_cgives1))] H := hP
  have hD : va_D A [(h0, .inr (0, [.int b_bundlesFound, .int b_firstBundle, .int (u_1.2.1 0), .ref b_qlengths, .ref b_qworths0, .ref b_qworths1, .ref g])), (b_qlengths, .inl (cA 1, 128, .inl (u_1.2.2.1 0))), (b_qworths0, .inl (cA 1, 128, .inl (u_1.2.2.1 1))), (b_qworths1, .inl (cA 1, 128, .inl (u_1.2.2.1 2))), (g, .inr (3, [.int g_odds, .int g_pot, .int g_lines, .int g_men, .int g_clauses, .int g_winds, .int g_far0, .int g_far1, .ref g_qsides, .ref g_qgrips, .ref g_qwits, .ref g_qsays, .ref g_qgives0, .ref g_qgives1, .ref g_qfroms, .ref g_qtos])), (g_qsays, .inl (cA 1, 7, .inl g_csays)), (g_qgives0, .inl (cA 1, 7, .inl g_cgives0)), (g_qgives1, .inl (cA 1, 7, .inl g_cgives1))] := hD
  have hr_1_0 := hr_1
  refine lv_iconst (v := 0) hx hb dX0_signedSets_4 (by decide) ?_
  refine lv_istore_n (lv' := [(1, .int 0), (0, .ref h0)]) hx hb dX0_signedSets_5 rfl hl (by decide) rfl (fun ls hl => ?_)
  refine lv_iconst (v := 0) hx hb dX0_signedSets_6 (by decide) ?_
  refine lv_istore_n (lv' := [(2, .int 0), (1, .int 0), (0, .ref h0)]) hx hb dX0_signedSets_7 rfl hl (by decide) rfl (fun ls hl => ?_)
  refine loopW (σ := Int32 × Int32) (fun _ => []) (fun ⟨L2_83, L1_83⟩ H locs ls => (0 ≤ L2_83.toInt ∧ L2_83.toInt ≤ 128) ∧ va_P D vwCl [(h0, .inr (0, [.int b_bundlesFound, .int b_firstBundle, .int (u_1.2.1 0), .ref b_qlengths, .ref b_qworths0, .ref b_qworths1, .ref g])), (b_qlengths, .inl (cA 1, 128, .inl (u_1.2.2.1 0))), (b_qworths0, .inl (cA 1, 128, .inl (u_1.2.2.1 1))), (b_qworths1, .inl (cA 1, 128, .inl (u_1.2.2.1 2))), (g, .inr (3, [.int g_odds, .int g_pot, .int g_lines, .int g_men, .int g_clauses, .int g_winds, .int g_far0, .int g_far1, .ref g_qsides, .ref g_qgrips, .ref g_qwits, .ref g_qsays, .ref g_qgives0, .ref g_qgives1, .ref g_qfroms, .ref g_qtos])), (g_qsays, .inl (cA 1, 7, .inl g_csays)), (g_qgives0, .inl (cA 1, 7, .inl g_cgives0)), (g_qgives1, .inl (cA 1, 7, .inl g_cgives1))] H ∧ va_D A [(h0, .inr (0, [.int b_bundlesFound, .int b_firstBundle, .int (u_1.2.1 0), .ref b_qlengths, .ref b_qworths0, .ref b_qworths1, .ref g])), (b_qlengths, .inl (cA 1, 128, .inl (u_1.2.2.1 0))), (b_qworths0, .inl (cA 1, 128, .inl (u_1.2.2.1 1))), (b_qworths1, .inl (cA 1, 128, .inl (u_1.2.2.1 2))), (g, .inr (3, [.int g_odds, .int g_pot, .int g_lines, .int g_men, .int g_clauses, .int g_winds, .int g_far0, .int g_far1, .ref g_qsides, .ref g_qgrips, .ref g_qwits, .ref g_qsays, .ref g_qgives0, .ref g_qgives1, .ref g_qfroms, .ref g_qtos])), (g_qsays, .inl (cA 1, 7, .inl g_csays)), (g_qgives0, .inl (cA 1, 7, .inl g_cgives0)), (g_qgives1, .inl (cA 1, 7, .inl g_cgives1))] ∧ va_S A s.heap H locs ∧ lv_has ls 3 [(2, .int L2_83), (1, .int L1_83), (0, .ref h0)]) (fun ⟨L2_83, L1_83⟩ => (2147483647 - L2_83.toInt).toNat) ?_ ((0, 0) : Int32 × Int32) ⟨(by decide), hP, hD, hS, hl⟩
  intro x_83 H locs ls hI_83 ih_83
  obtain ⟨L2_83, L1_83⟩ := x_83
  obtain ⟨k0_83, hP, hD, hS, hl⟩ := hI_83
  have hP : va_P D vwCl [(h0, .inr (0, [.int b_bundlesFound, .int b_firstBundle, .int (u_1.2.1 0), .ref b_qlengths, .ref b_qworths0, .ref b_qworths1, .ref g])), (b_qlengths, .inl (cA 1, 128, .inl (u_1.2.2.1 0))), (b_qworths0, .inl (cA 1, 128, .inl (u_1.2.2.1 1))), (b_qworths1, .inl (cA 1, 128, .inl (u_1.2.2.1 2))), (g, .inr (3, [.int g_odds, .int g_pot, .int g_lines, .int g_men, .int g_clauses, .int g_winds, .int g_far0, .int g_far1, .ref g_qsides, .ref g_qgrips, .ref g_qwits, .ref g_qsays, .ref g_qgives0, .ref g_qgives1, .ref g_qfroms, .ref g_qtos])), (g_qsays, .inl (cA 1, 7, .inl g_csays)), (g_qgives0, .inl (cA 1, 7, .inl g_cgives0)), (g_qgives1, .inl (cA 1, 7, .inl g_cgives1))] H := hP
  have hD : va_D A [(h0, .inr (0, [.int b_bundlesFound, .int b_firstBundle, .int (u_1.2.1 0), .ref b_qlengths, .ref b_qworths0, .ref b_qworths1, .ref g])), (b_qlengths, .inl (cA 1, 128, .inl (u_1.2.2.1 0))), (b_qworths0, .inl (cA 1, 128, .inl (u_1.2.2.1 1))), (b_qworths1, .inl (cA 1, 128, .inl (u_1.2.2.1 2))), (g, .inr (3, [.int g_odds, .int g_pot, .int g_lines, .int g_men, .int g_clauses, .int g_winds, .int g_far0, .int g_far1, .ref g_qsides, .ref g_qgrips, .ref g_qwits, .ref g_qsays, .ref g_qgives0, .ref g_qgives1, .ref g_qfroms, .ref g_qtos])), (g_qsays, .inl (cA 1, 7, .inl g_csays)), (g_qgives0, .inl (cA 1, 7, .inl g_cgives0)), (g_qgives1, .inl (cA 1, 7, .inl g_cgives1))] := hD
  have hl : lv_has ls 3 [(2, .int L2_83), (1, .int L1_83), (0, .ref h0)] := hl
  refine lv_iload_n hx hb dX0_signedSets_8 rfl (lv_at hl 0 rfl) ?_
  refine lv_aload_n hx hb dX0_signedSets_9 rfl (lv_at hl 2 rfl) ?_
  refine va_get (D := D) (ci := 0) (v := .int (u_1.2.1 0)) (C := RX0) (T := TX0) (N := 7) hx hb hts inX0 hown hKN.1 hP 0 rfl rfl 2 (by decide) (hts _ tw_421) (fun _ h9 => h9) rfl dX0_signedSets_10 ?_
  refine lv_icmp_ge (tgt := 33) hx hb dX0_signedSets_13 (by decide) (fun c_84 => ?_) (fun c_84 => ?_)
  · skip
    have k_85 := kk_le rfl rfl c_84
    refine lv_iload_n hx hb dX0_signedSets_33 rfl (lv_at hl 1 rfl) ?_
    have hP9 := hP.sub (ws' := [(h0, .inr (0, [.int b_bundlesFound, .int b_firstBundle, .int (u_1.2.1 0), .ref b_qlengths, .ref b_qworths0, .ref b_qworths1, .ref g])), (b_qlengths, .inl (cA 1, 128, .inl (u_1.2.2.1 0))), (b_qworths0, .inl (cA 1, 128, .inl (u_1.2.2.1 1))), (b_qworths1, .inl (cA 1, 128, .inl (u_1.2.2.1 2))), (g, .inr (3, [.int g_odds, .int g_pot, .int g_lines, .int g_men, .int g_clauses, .int g_winds, .int g_far0, .int g_far1, .ref g_qsides, .ref g_qgrips, .ref g_qwits, .ref g_qsays, .ref g_qgives0, .ref g_qgives1, .ref g_qfroms, .ref g_qtos])), (g_qsays, .inl (cA 1, 7, .inl g_csays)), (g_qgives0, .inl (cA 1, 7, .inl g_cgives0)), (g_qgives1, .inl (cA 1, 7, .inl g_cgives1))]) [0, 1, 2, 3, 4, 5, 6, 7] rfl
    have hD9 := hD.sub (ws' := [(h0, .inr (0, [.int b_bundlesFound, .int b_firstBundle, .int (u_1.2.1 0), .ref b_qlengths, .ref b_qworths0, .ref b_qworths1, .ref g])), (b_qlengths, .inl (cA 1, 128, .inl (u_1.2.2.1 0))), (b_qworths0, .inl (cA 1, 128, .inl (u_1.2.2.1 1))), (b_qworths1, .inl (cA 1, 128, .inl (u_1.2.2.1 2))), (g, .inr (3, [.int g_odds, .int g_pot, .int g_lines, .int g_men, .int g_clauses, .int g_winds, .int g_far0, .int g_far1, .ref g_qsides, .ref g_qgrips, .ref g_qwits, .ref g_qsays, .ref g_qgives0, .ref g_qgives1, .ref g_qfroms, .ref g_qtos])), (g_qsays, .inl (cA 1, 7, .inl g_csays)), (g_qgives0, .inl (cA 1, 7, .inl g_cgives0)), (g_qgives1, .inl (cA 1, 7, .inl g_cgives1))]) [0, 1, 2, 3, 4, 5, 6, 7] (by decide) rfl
    exact W.iret (v := L1_83) hx hb hr (fun t ht hW => ⟨⟨L1_83, ((fun _ => 0), (selI [(u_1.2.1 0)]), (selF [(u_1.2.2.1 0), (u_1.2.2.1 1), (u_1.2.2.1 2)]), (fun _ _ => 0)), rfl, (show 1 ≤ (u_1.2.1 0).toInt ∧ (u_1.2.1 0).toInt ≤ 128 from by omega), by rw [ht]; exact hP9, hD9⟩, hS.F ht⟩) hS.2.2 dX0_signedSets_34
  · skip
    have k_86 := kk_nle rfl rfl c_84
    refine lv_aload_n hx hb dX0_signedSets_16 rfl (lv_at hl 2 rfl) ?_
    refine lv_iload_n hx hb dX0_signedSets_17 rfl (lv_at hl 0 rfl) ?_
    refine cpVi (rest := []) ⟨hx, hb, hml, hown, hts⟩ hKN (hP.sub (ws' := [(h0, .inr (0, [.int b_bundlesFound, .int b_firstBundle, .int (u_1.2.1 0), .ref b_qlengths, .ref b_qworths0, .ref b_qworths1, .ref g])), (b_qworths0, .inl (cA 1, 128, .inl (u_1.2.2.1 1))), (b_qworths1, .inl (cA 1, 128, .inl (u_1.2.2.1 2)))]) [0, 2, 3] rfl) (g_X0_isSigned l D cA h0 b_bundlesFound b_firstBundle (u_1.2.1 0) b_qlengths b_qworths0 b_qworths1 g (u_1.2.2.1 1) (u_1.2.2.1 2) L2_83) (tb_V tw_1102 tw_1104 tw_23 tw_112 tw_1105) hdX0_isSigned ⟨rfl, rfl, Nat.le_of_ble_eq_true rfl, Nat.le_of_ble_eq_true rfl⟩ ⟨Nat.le_of_ble_eq_true rfl, Nat.le_of_ble_eq_true rfl⟩ rfl rfl rfl hl.1 rfl (Nat.le_of_ble_eq_true rfl) dX0_signedSets_18 (fun r_87 hr_87 => ?_)
    refine lv_if_eq (tgt := 27) hx hb dX0_signedSets_21 (by decide) (fun c_88 => ?_) (fun c_88 => ?_)
    · skip
      have k_89 := kk_eq rfl zi_0 c_88
      obtain ⟨x_90, ex_90⟩ : ∃ y : Int32, L2_83 + Int32.ofInt 1 = y := ⟨_, rfl⟩
      have k_91 := ar_add (b := 1) rfl zi_1 ex_90.symm (by omega) (by omega)
      refine lv_iinc (v := x_90) (lv' := [(2, .int x_90), (1, .int L1_83), (0, .ref h0)]) hx hb dX0_signedSets_27 hl (k := 0) rfl ex_90 (by decide) rfl (fun ls hl => ?_)
      refine lv_goto (tgt := 8) hx hb dX0_signedSets_30 (by decide) ?_
      exact ih_83 (x_90, L1_83) _ _ _ ⟨(show 0 ≤ x_90.toInt ∧ x_90.toInt ≤ 128 from by omega), hP.sub [0, 1, 2, 3, 4, 5, 6, 7] rfl, hD.sub [0, 1, 2, 3, 4, 5, 6, 7] (by decide) rfl, hS, lv_sub hl [0, 1, 2] rfl⟩ (by show (2147483647 - x_90.toInt).toNat < (2147483647 - L2_83.toInt).toNat; omega)
    · skip
      have k_92 := kk_ne rfl zi_0 c_88
      obtain ⟨x_93, ex_93⟩ : ∃ y : Int32, L1_83 + Int32.ofInt 1 = y := ⟨_, rfl⟩
      refine lv_iinc (v := x_93) (lv' := [(1, .int x_93), (2, .int L2_83), (0, .ref h0)]) hx hb dX0_signedSets_24 hl (k := 1) rfl ex_93 (by decide) rfl (fun ls hl => ?_)
      obtain ⟨x_94, ex_94⟩ : ∃ y : Int32, L2_83 + Int32.ofInt 1 = y := ⟨_, rfl⟩
      have k_95 := ar_add (b := 1) rfl zi_1 ex_94.symm (by omega) (by omega)
      refine lv_iinc (v := x_94) (lv' := [(2, .int x_94), (1, .int x_93), (0, .ref h0)]) hx hb dX0_signedSets_27 hl (k := 1) rfl ex_94 (by decide) rfl (fun ls hl => ?_)
      refine lv_goto (tgt := 8) hx hb dX0_signedSets_30 (by decide) ?_
      exact ih_83 (x_94, x_93) _ _ _ ⟨(show 0 ≤ x_94.toInt ∧ x_94.toInt ≤ 128 from by omega), hP.sub [0, 1, 2, 3, 4, 5, 6, 7] rfl, hD.sub [0, 1, 2, 3, 4, 5, 6, 7] (by decide) rfl, hS, lv_sub hl [0, 1, 2] rfl⟩ (by show (2147483647 - x_94.toInt).toNat < (2147483647 - L2_83.toInt).toNat; omega)
set_option maxHeartbeats 8000000 in
set_option maxRecDepth 100000 in
theorem g_X0_bestDeal (l : Launch) (D : va_G) (cA : Nat → ClassId) (sz : Nat) (h0 : Nat) (b_bundlesFound : Int32) (b_firstBundle : Int32) (b_sets : Int32) (b_qlengths : Nat) (b_qworths0 : Nat) (b_qworths1 : Nat) (g : Nat) (b_clengths : Nat → Int32) (b_cworths0 : Nat → Int32) (b_cworths1 : Nat → Int32) (g_odds : Int32) (g_pot : Int32) (g_lines : Int32) (g_men : Int32) (g_clauses : Int32) (g_winds : Int32) (g_far0 : Int32) (g_far1 : Int32) (g_qsides : Nat) (g_qgrips : Nat) (g_qwits : Nat) (g_qsays : Nat) (g_qgives0 : Nat) (g_qgives1 : Nat) (g_qfroms : Nat) (g_qtos : Nat) (g_csays : Nat → Int32) (g_cgives0 : Nat → Int32) (g_cgives1 : Nat → Int32) (h_g_odds : -999 ≤ (g_odds : Int32).toInt ∧ (g_odds : Int32).toInt ≤ 999) (h_g_pot : -999 ≤ (g_pot : Int32).toInt ∧ (g_pot : Int32).toInt ≤ 999) (h_g_men : 0 ≤ (g_men : Int32).toInt ∧ (g_men : Int32).toInt ≤ 8) (h_g_clauses : 0 ≤ (g_clauses : Int32).toInt ∧ (g_clauses : Int32).toInt ≤ 7) (h_g_winds : 0 ≤ (g_winds : Int32).toInt ∧ (g_winds : Int32).toInt ≤ 4) (h_g_far0 : -999 ≤ (g_far0 : Int32).toInt ∧ (g_far0 : Int32).toInt ≤ 999) (h_g_far1 : -999 ≤ (g_far1 : Int32).toInt ∧ (g_far1 : Int32).toInt ≤ 999) : Met l yX0_bestDeal (Cond.code yX0_bestDeal cX0_bestDeal 3 (some .int) :: TB) (rmd 3 0 0) (PM D cA sz [(h0, .inr (0, [.int b_bundlesFound, .int b_firstBundle, .int b_sets, .ref b_qlengths, .ref b_qworths0, .ref b_qworths1, .ref g])), (b_qlengths, .inl (cA 1, 128, .inl b_clengths)), (b_qworths0, .inl (cA 1, 128, .inl b_cworths0)), (b_qworths1, .inl (cA 1, 128, .inl b_cworths1)), (g, .inr (3, [.int g_odds, .int g_pot, .int g_lines, .int g_men, .int g_clauses, .int g_winds, .int g_far0, .int g_far1, .ref g_qsides, .ref g_qgrips, .ref g_qwits, .ref g_qsays, .ref g_qgives0, .ref g_qgives1, .ref g_qfroms, .ref g_qtos])), (g_qsays, .inl (cA 1, 7, .inl g_csays)), (g_qgives0, .inl (cA 1, 7, .inl g_cgives0)), (g_qgives1, .inl (cA 1, 7, .inl g_cgives1))] [.ref h0]) (va_Qi (fun r (u : SU) => (0 ≤ r.toInt ∧ r.toInt ≤ 127) ∧ (1 ≤ (u.2.1 0).toInt ∧ (u.2.1 0).toInt ≤ 128)) (fun u t => va_P D vwCl [(h0, .inr (0, [.int b_bundlesFound, .int b_firstBundle, .int (u.2.1 0), .ref b_qlengths, .ref b_qworths0, .ref b_qworths1, .ref g])), (b_qlengths, .inl (cA 1, 128, .inl (u.2.2.1 0))), (b_qworths0, .inl (cA 1, 128, .inl (u.2.2.1 1))), (b_qworths1, .inl (cA 1, 128, .inl (u.2.2.1 2))), (g, .inr (3, [.int g_odds, .int g_pot, .int g_lines, .int g_men, .int g_clauses, .int g_winds, .int g_far0, .int g_far1, .ref g_qsides, .ref g_qgrips, .ref g_qwits, .ref g_qsays, .ref g_qgives0, .ref g_qgives1, .ref g_qfroms, .ref g_qtos])), (g_qsays, .inl (cA 1, 7, .inl g_csays)), (g_qgives0, .inl (cA 1, 7, .inl g_cgives0)), (g_qgives1, .inl (cA 1, 7, .inl g_cgives1))] t.heap ∧ va_D (va_A [(h0, .inr (0, [.int b_bundlesFound, .int b_firstBundle, .int b_sets, .ref b_qlengths, .ref b_qworths0, .ref b_qworths1, .ref g])), (b_qlengths, .inl (cA 1, 128, .inl b_clengths)), (b_qworths0, .inl (cA 1, 128, .inl b_cworths0)), (b_qworths1, .inl (cA 1, 128, .inl b_cworths1)), (g, .inr (3, [.int g_odds, .int g_pot, .int g_lines, .int g_men, .int g_clauses, .int g_winds, .int g_far0, .int g_far1, .ref g_qsides, .ref g_qgrips, .ref g_qwits, .ref g_qsays, .ref g_qgives0, .ref g_qgives1, .ref g_qfroms, .ref g_qtos])), (g_qsays, .inl (cA 1, 7, .inl g_csays)), (g_qgives0, .inl (cA 1, 7, .inl g_cgives0)), (g_qgives1, .inl (cA 1, 7, .inl g_cgives1))] sz) [(h0, .inr (0, [.int b_bundlesFound, .int b_firstBundle, .int (u.2.1 0), .ref b_qlengths, .ref b_qworths0, .ref b_qworths1, .ref g])), (b_qlengths, .inl (cA 1, 128, .inl (u.2.2.1 0))), (b_qworths0, .inl (cA 1, 128, .inl (u.2.2.1 1))), (b_qworths1, .inl (cA 1, 128, .inl (u.2.2.1 2))), (g, .inr (3, [.int g_odds, .int g_pot, .int g_lines, .int g_men, .int g_clauses, .int g_winds, .int g_far0, .int g_far1, .ref g_qsides, .ref g_qgrips, .ref g_qwits, .ref g_qsays, .ref g_qgives0, .ref g_qgives1, .ref g_qfroms, .ref g_qtos])), (g_qsays, .inl (cA 1, 7, .inl g_csays)), (g_qgives0, .inl (cA 1, 7, .inl g_cgives0)), (g_qgives1, .inl (cA 1, 7, .inl g_cgives1))]) (va_A [(h0, .inr (0, [.int b_bundlesFound, .int b_firstBundle, .int b_sets, .ref b_qlengths, .ref b_qworths0, .ref b_qworths1, .ref g])), (b_qlengths, .inl (cA 1, 128, .inl b_clengths)), (b_qworths0, .inl (cA 1, 128, .inl b_cworths0)), (b_qworths1, .inl (cA 1, 128, .inl b_cworths1)), (g, .inr (3, [.int g_odds, .int g_pot, .int g_lines, .int g_men, .int g_clauses, .int g_winds, .int g_far0, .int g_far1, .ref g_qsides, .ref g_qgrips, .ref g_qwits, .ref g_qsays, .ref g_qgives0, .ref g_qgives1, .ref g_qfroms, .ref g_qtos])), (g_qsays, .inl (cA 1, 7, .inl g_csays)), (g_qgives0, .inl (cA 1, 7, .inl g_cgives0)), (g_qgives1, .inl (cA 1, 7, .inl g_cgives1))] sz)) 0 0 (va_A [(h0, .inr (0, [.int b_bundlesFound, .int b_firstBundle, .int b_sets, .ref b_qlengths, .ref b_qworths0, .ref b_qworths1, .ref g])), (b_qlengths, .inl (cA 1, 128, .inl b_clengths)), (b_qworths0, .inl (cA 1, 128, .inl b_cworths0)), (b_qworths1, .inl (cA 1, 128, .inl b_cworths1)), (g, .inr (3, [.int g_odds, .int g_pot, .int g_lines, .int g_men, .int g_clauses, .int g_winds, .int g_far0, .int g_far1, .ref g_qsides, .ref g_qgrips, .ref g_qwits, .ref g_qsays, .ref g_qgives0, .ref g_qgives1, .ref g_qfroms, .ref g_qtos])), (g_qsays, .inl (cA 1, 7, .inl g_csays)), (g_qgives0, .inl (cA 1, 7, .inl g_cgives0)), (g_qgives1, .inl (cA 1, 7, .inl g_cgives1))] sz) := by
  refine Met.ofW (cc := cX0_bestDeal) (maxL := 3) (ret := (some .int)) (by decide) rfl ?_
  intro p e s m args below meth c s₁ B hml hv
  obtain ⟨rfl, hsz, hP, hKN, hD0⟩ := hv
  have hx := B.exec
  have hb := B.bytes
  have hr := B.returns
  have hts : ∀ w ∈ TB, w.before _ s = true := fun w h => atoms_spec B.pre w (List.mem_cons_of_mem _ h)
  have hown : s.vm.findClass RX0 = some m.cls := findClass_of_methodNamed B.named
  have hlocks := B.notSynchronized
  subst hsz
  have hD := hD0.self (sz := s.heap.size)
  generalize hAe : va_A [(h0, .inr (0, [.int b_bundlesFound, .int b_firstBundle, .int b_sets, .ref b_qlengths, .ref b_qworths0, .ref b_qworths1, .ref g])), (b_qlengths, .inl (cA 1, 128, .inl b_clengths)), (b_qworths0, .inl (cA 1, 128, .inl b_cworths0)), (b_qworths1, .inl (cA 1, 128, .inl b_cworths1)), (g, .inr (3, [.int g_odds, .int g_pot, .int g_lines, .int g_men, .int g_clauses, .int g_winds, .int g_far0, .int g_far1, .ref g_qsides, .ref g_qgrips, .ref g_qwits, .ref g_qsays, .ref g_qgives0, .ref g_qgives1, .ref g_qfroms, .ref g_qtos])), (g_qsays, .inl (cA 1, 7, .inl g_csays)), (g_qgives0, .inl (cA 1, 7, .inl g_cgives0)), (g_qgives1, .inl (cA 1, 7, .inl g_cgives1))] s.heap.size = A at hD ⊢
  have hA : ∀ q : Nat, s.heap.size ≤ q → A q := fun q h => by rw [← hAe]; exact Or.inr h
  have hS : va_S A s.heap s.heap [] := va_S.rf
  have hl := lv_entry ([.ref h0]) (n := 3) (Nat.le_of_ble_eq_true rfl)
  rw [lg_entry_eq]
  generalize (lg_sl ([.ref h0]) ++ List.replicate (3 - (lg_sl ([.ref h0])).length) Slot.unset).toArray = ls at hl ⊢
  have hl : lv_has ls 3 [(0, .ref h0)] := hl
  refine lv_aload_n hx hb dX0_bestDeal_0 rfl (lv_at hl 0 rfl) ?_
  refine cmVv (rest := []) (wsC := [(h0, .inr (0, [.int b_bundlesFound, .int b_firstBundle, .int b_sets, .ref b_qlengths, .ref b_qworths0, .ref b_qworths1, .ref g])), (b_qlengths, .inl (cA 1, 128, .inl b_clengths)), (b_qworths0, .inl (cA 1, 128, .inl b_cworths0)), (b_qworths1, .inl (cA 1, 128, .inl b_cworths1)), (g, .inr (3, [.int g_odds, .int g_pot, .int g_lines, .int g_men, .int g_clauses, .int g_winds, .int g_far0, .int g_far1, .ref g_qsides, .ref g_qgrips, .ref g_qwits, .ref g_qsays, .ref g_qgives0, .ref g_qgives1, .ref g_qfroms, .ref g_qtos])), (g_qsays, .inl (cA 1, 7, .inl g_csays)), (g_qgives0, .inl (cA 1, 7, .inl g_cgives0)), (g_qgives1, .inl (cA 1, 7, .inl g_cgives1))]) (wr := []) ⟨hx, hb, hml, hown, hts⟩ hKN hP hD hS hA [0, 1, 2, 3, 4, 5, 6, 7] [] rfl rfl (by decide) (by decide) (by decide) (g_X0_weighSets l D cA _ h0 b_bundlesFound b_firstBundle b_sets b_qlengths b_qworths0 b_qworths1 g b_clengths b_cworths0 b_cworths1 g_odds g_pot g_lines g_men g_clauses g_winds g_far0 g_far1 g_qsides g_qgrips g_qwits g_qsays g_qgives0 g_qgives1 g_qfroms g_qtos g_csays g_cgives0 g_cgives1 (by omega) (by omega) (by omega) (by omega) (by omega) (by omega) (by omega)) (tb_V tw_1047 tw_1049 tw_22 tw_112 tw_1050) hdX0_weighSets ⟨rfl, rfl, Nat.le_of_ble_eq_true rfl, Nat.le_of_ble_eq_true rfl⟩ ⟨Nat.le_of_ble_eq_true rfl, Nat.le_of_ble_eq_true rfl⟩ rfl rfl rfl hl.1 rfl (Nat.le_of_ble_eq_true rfl) dX0_bestDeal_1 (fun u_1 H locs hr_1 hP hD hS => ?_)
  have hP : va_P D vwCl [(h0, .inr (0, [.int b_bundlesFound, .int b_firstBundle, .int (u_1.2.1 0), .ref b_qlengths, .ref b_qworths0, .ref b_qworths1, .ref g])), (b_qlengths, .inl (cA 1, 128, .inl (u_1.2.2.1 0))), (b_qworths0, .inl (cA 1, 128, .inl (u_1.2.2.1 1))), (b_qworths1, .inl (cA 1, 128, .inl (u_1.2.2.1 2))), (g, .inr (3, [.int g_odds, .int g_pot, .int g_lines, .int g_men, .int g_clauses, .int g_winds, .int g_far0, .int g_far1, .ref g_qsides, .ref g_qgrips, .ref g_qwits, .ref g_qsays, .ref g_qgives0, .ref g_qgives1, .ref g_qfroms, .ref g_qtos])), (g_qsays, .inl (cA 1, 7, .inl g_csays)), (g_qgives0, .inl (cA 1, 7, .inl g_cgives0)), (g_qgives1, .inl (cA 1, 7, .inl g_cgives1))] H := hP
  have hD : va_D A [(h0, .inr (0, [.int b_bundlesFound, .int b_firstBundle, .int (u_1.2.1 0), .ref b_qlengths, .ref b_qworths0, .ref b_qworths1, .ref g])), (b_qlengths, .inl (cA 1, 128, .inl (u_1.2.2.1 0))), (b_qworths0, .inl (cA 1, 128, .inl (u_1.2.2.1 1))), (b_qworths1, .inl (cA 1, 128, .inl (u_1.2.2.1 2))), (g, .inr (3, [.int g_odds, .int g_pot, .int g_lines, .int g_men, .int g_clauses, .int g_winds, .int g_far0, .int g_far1, .ref g_qsides, .ref g_qgrips, .ref g_qwits, .ref g_qsays, .ref g_qgives0, .ref g_qgives1, .ref g_qfroms, .ref g_qtos])), (g_qsays, .inl (cA 1, 7, .inl g_csays)), (g_qgives0, .inl (cA 1, 7, .inl g_cgives0)), (g_qgives1, .inl (cA 1, 7, .inl g_cgives1))] := hD
  have hr_1_0 := hr_1
  refine lv_iconst (v := 0) hx hb dX0_bestDeal_4 (by decide) ?_
  refine lv_istore_n (lv' := [(1, .int 0), (0, .ref h0)]) hx hb dX0_bestDeal_5 rfl hl (by decide) rfl (fun ls hl => ?_)
  refine lv_iconst (v := 0) hx hb dX0_bestDeal_6 (by decide) ?_
  refine lv_istore_n (lv' := [(2, .int 0), (1, .int 0), (0, .ref h0)]) hx hb dX0_bestDeal_7 rfl hl (by decide) rfl (fun ls hl => ?_)
  refine loopW (σ := Int32 × Int32) (fun _ => []) (fun ⟨L2_176, L1_176⟩ H locs ls => (0 ≤ L2_176.toInt ∧ L2_176.toInt ≤ 128) ∧ (0 ≤ L1_176.toInt ∧ L1_176.toInt ≤ 127) ∧ va_P D vwCl [(h0, .inr (0, [.int b_bundlesFound, .int b_firstBundle, .int (u_1.2.1 0), .ref b_qlengths, .ref b_qworths0, .ref b_qworths1, .ref g])), (b_qlengths, .inl (cA 1, 128, .inl (u_1.2.2.1 0))), (b_qworths0, .inl (cA 1, 128, .inl (u_1.2.2.1 1))), (b_qworths1, .inl (cA 1, 128, .inl (u_1.2.2.1 2))), (g, .inr (3, [.int g_odds, .int g_pot, .int g_lines, .int g_men, .int g_clauses, .int g_winds, .int g_far0, .int g_far1, .ref g_qsides, .ref g_qgrips, .ref g_qwits, .ref g_qsays, .ref g_qgives0, .ref g_qgives1, .ref g_qfroms, .ref g_qtos])), (g_qsays, .inl (cA 1, 7, .inl g_csays)), (g_qgives0, .inl (cA 1, 7, .inl g_cgives0)), (g_qgives1, .inl (cA 1, 7, .inl g_cgives1))] H ∧ va_D A [(h0, .inr (0, [.int b_bundlesFound, .int b_firstBundle, .int (u_1.2.1 0), .ref b_qlengths, .ref b_qworths0, .ref b_qworths1, .ref g])), (b_qlengths, .inl (cA 1, 128, .inl (u_1.2.2.1 0))), (b_qworths0, .inl (cA 1, 128, .inl (u_1.2.2.1 1))), (b_qworths1, .inl (cA 1, 128, .inl (u_1.2.2.1 2))), (g, .inr (3, [.int g_odds, .int g_pot, .int g_lines, .int g_men, .int g_clauses, .int g_winds, .int g_far0, .int g_far1, .ref g_qsides, .ref g_qgrips, .ref g_qwits, .ref g_qsays, .ref g_qgives0, .ref g_qgives1, .ref g_qfroms, .ref g_qtos])), (g_qsays, .inl (cA 1, 7, .inl g_csays)), (g_qgives0, .inl (cA 1, 7, .inl g_cgives0)), (g_qgives1, .inl (cA 1, 7, .inl g_cgives1))] ∧ va_S A s.heap H locs ∧ lv_has ls 3 [(2, .int L2_176), (1, .int L1_176), (0, .ref h0)]) (fun ⟨L2_176, L1_176⟩ => (2147483647 - L2_176.toInt).toNat) ?_ ((0, 0) : Int32 × Int32) ⟨(by decide), (by decide), hP, hD, hS, hl⟩
  intro x_176 H locs ls hI_176 ih_176
  obtain ⟨L2_176, L1_176⟩ := x_176
  obtain ⟨k0_176, k1_176, hP, hD, hS, hl⟩ := hI_176
  have hP : va_P D vwCl [(h0, .inr (0, [.int b_bundlesFound, .int b_firstBundle, .int (u_1.2.1 0), .ref b_qlengths, .ref b_qworths0, .ref b_qworths1, .ref g])), (b_qlengths, .inl (cA 1, 128, .inl (u_1.2.2.1 0))), (b_qworths0, .inl (cA 1, 128, .inl (u_1.2.2.1 1))), (b_qworths1, .inl (cA 1, 128, .inl (u_1.2.2.1 2))), (g, .inr (3, [.int g_odds, .int g_pot, .int g_lines, .int g_men, .int g_clauses, .int g_winds, .int g_far0, .int g_far1, .ref g_qsides, .ref g_qgrips, .ref g_qwits, .ref g_qsays, .ref g_qgives0, .ref g_qgives1, .ref g_qfroms, .ref g_qtos])), (g_qsays, .inl (cA 1, 7, .inl g_csays)), (g_qgives0, .inl (cA 1, 7, .inl g_cgives0)), (g_qgives1, .inl (cA 1, 7, .inl g_cgives1))] H := hP
  have hD : va_D A [(h0, .inr (0, [.int b_bundlesFound, .int b_firstBundle, .int (u_1.2.1 0), .ref b_qlengths, .ref b_qworths0, .ref b_qworths1, .ref g])), (b_qlengths, .inl (cA 1, 128, .inl (u_1.2.2.1 0))), (b_qworths0, .inl (cA 1, 128, .inl (u_1.2.2.1 1))), (b_qworths1, .inl (cA 1, 128, .inl (u_1.2.2.1 2))), (g, .inr (3, [.int g_odds, .int g_pot, .int g_lines, .int g_men, .int g_clauses, .int g_winds, .int g_far0, .int g_far1, .ref g_qsides, .ref g_qgrips, .ref g_qwits, .ref g_qsays, .ref g_qgives0, .ref g_qgives1, .ref g_qfroms, .ref g_qtos])), (g_qsays, .inl (cA 1, 7, .inl g_csays)), (g_qgives0, .inl (cA 1, 7, .inl g_cgives0)), (g_qgives1, .inl (cA 1, 7, .inl g_cgives1))] := hD
  have hl : lv_has ls 3 [(2, .int L2_176), (1, .int L1_176), (0, .ref h0)] := hl
  refine lv_iload_n hx hb dX0_bestDeal_8 rfl (lv_at hl 0 rfl) ?_
  refine lv_aload_n hx hb dX0_bestDeal_9 rfl (lv_at hl 2 rfl) ?_
  refine va_get (D := D) (ci := 0) (v := .int (u_1.2.1 0)) (C := RX0) (T := TX0) (N := 7) hx hb hts inX0 hown hKN.1 hP 0 rfl rfl 2 (by decide) (hts _ tw_421) (fun _ h9 => h9) rfl dX0_bestDeal_10 ?_
  refine lv_icmp_ge (tgt := 61) hx hb dX0_bestDeal_13 (by decide) (fun c_177 => ?_) (fun c_177 => ?_)
  · skip
    have k_178 := kk_le rfl rfl c_177
    refine lv_iload_n hx hb dX0_bestDeal_61 rfl (lv_at hl 1 rfl) ?_
    have hP9 := hP.sub (ws' := [(h0, .inr (0, [.int b_bundlesFound, .int b_firstBundle, .int (u_1.2.1 0), .ref b_qlengths, .ref b_qworths0, .ref b_qworths1, .ref g])), (b_qlengths, .inl (cA 1, 128, .inl (u_1.2.2.1 0))), (b_qworths0, .inl (cA 1, 128, .inl (u_1.2.2.1 1))), (b_qworths1, .inl (cA 1, 128, .inl (u_1.2.2.1 2))), (g, .inr (3, [.int g_odds, .int g_pot, .int g_lines, .int g_men, .int g_clauses, .int g_winds, .int g_far0, .int g_far1, .ref g_qsides, .ref g_qgrips, .ref g_qwits, .ref g_qsays, .ref g_qgives0, .ref g_qgives1, .ref g_qfroms, .ref g_qtos])), (g_qsays, .inl (cA 1, 7, .inl g_csays)), (g_qgives0, .inl (cA 1, 7, .inl g_cgives0)), (g_qgives1, .inl (cA 1, 7, .inl g_cgives1))]) [0, 1, 2, 3, 4, 5, 6, 7] rfl
    have hD9 := hD.sub (ws' := [(h0, .inr (0, [.int b_bundlesFound, .int b_firstBundle, .int (u_1.2.1 0), .ref b_qlengths, .ref b_qworths0, .ref b_qworths1, .ref g])), (b_qlengths, .inl (cA 1, 128, .inl (u_1.2.2.1 0))), (b_qworths0, .inl (cA 1, 128, .inl (u_1.2.2.1 1))), (b_qworths1, .inl (cA 1, 128, .inl (u_1.2.2.1 2))), (g, .inr (3, [.int g_odds, .int g_pot, .int g_lines, .int g_men, .int g_clauses, .int g_winds, .int g_far0, .int g_far1, .ref g_qsides, .ref g_qgrips, .ref g_qwits, .ref g_qsays, .ref g_qgives0, .ref g_qgives1, .ref g_qfroms, .ref g_qtos])), (g_qsays, .inl (cA 1, 7, .inl g_csays)), (g_qgives0, .inl (cA 1, 7, .inl g_cgives0)), (g_qgives1, .inl (cA 1, 7, .inl g_cgives1))]) [0, 1, 2, 3, 4, 5, 6, 7] (by decide) rfl
    exact W.iret (v := L1_176) hx hb hr (fun t ht hW => ⟨⟨L1_176, ((fun _ => 0), (selI [(u_1.2.1 0)]), (selF [(u_1.2.2.1 0), (u_1.2.2.1 1), (u_1.2.2.1 2)]), (fun _ _ => 0)), rfl, ⟨(show 0 ≤ L1_176.toInt ∧ L1_176.toInt ≤ 127 from by omega), (show 1 ≤ (u_1.2.1 0).toInt ∧ (u_1.2.1 0).toInt ≤ 128 from by omega)⟩, by rw [ht]; exact hP9, hD9⟩, hS.F ht⟩) hS.2.2 dX0_bestDeal_62
  · skip
    have k_179 := kk_nle rfl rfl c_177
    refine lv_aload_n hx hb dX0_bestDeal_16 rfl (lv_at hl 2 rfl) ?_
    refine lv_iload_n hx hb dX0_bestDeal_17 rfl (lv_at hl 0 rfl) ?_
    refine cpVi (rest := []) ⟨hx, hb, hml, hown, hts⟩ hKN (hP.sub (ws' := [(h0, .inr (0, [.int b_bundlesFound, .int b_firstBundle, .int (u_1.2.1 0), .ref b_qlengths, .ref b_qworths0, .ref b_qworths1, .ref g])), (b_qworths0, .inl (cA 1, 128, .inl (u_1.2.2.1 1))), (b_qworths1, .inl (cA 1, 128, .inl (u_1.2.2.1 2)))]) [0, 2, 3] rfl) (g_X0_isSigned l D cA h0 b_bundlesFound b_firstBundle (u_1.2.1 0) b_qlengths b_qworths0 b_qworths1 g (u_1.2.2.1 1) (u_1.2.2.1 2) L2_176) (tb_V tw_1102 tw_1104 tw_23 tw_112 tw_1105) hdX0_isSigned ⟨rfl, rfl, Nat.le_of_ble_eq_true rfl, Nat.le_of_ble_eq_true rfl⟩ ⟨Nat.le_of_ble_eq_true rfl, Nat.le_of_ble_eq_true rfl⟩ rfl rfl rfl hl.1 rfl (Nat.le_of_ble_eq_true rfl) dX0_bestDeal_18 (fun r_180 hr_180 => ?_)
    refine lv_if_eq (tgt := 55) hx hb dX0_bestDeal_21 (by decide) (fun c_181 => ?_) (fun c_181 => ?_)
    · skip
      have k_182 := kk_eq rfl zi_0 c_181
      obtain ⟨x_183, ex_183⟩ : ∃ y : Int32, L2_176 + Int32.ofInt 1 = y := ⟨_, rfl⟩
      have k_184 := ar_add (b := 1) rfl zi_1 ex_183.symm (by omega) (by omega)
      refine lv_iinc (v := x_183) (lv' := [(2, .int x_183), (1, .int L1_176), (0, .ref h0)]) hx hb dX0_bestDeal_55 hl (k := 0) rfl ex_183 (by decide) rfl (fun ls hl => ?_)
      refine lv_goto (tgt := 8) hx hb dX0_bestDeal_58 (by decide) ?_
      exact ih_176 (x_183, L1_176) _ _ _ ⟨(show 0 ≤ x_183.toInt ∧ x_183.toInt ≤ 128 from by omega), (show 0 ≤ L1_176.toInt ∧ L1_176.toInt ≤ 127 from by omega), hP.sub [0, 1, 2, 3, 4, 5, 6, 7] rfl, hD.sub [0, 1, 2, 3, 4, 5, 6, 7] (by decide) rfl, hS, lv_sub hl [0, 1, 2] rfl⟩ (by show (2147483647 - x_183.toInt).toNat < (2147483647 - L2_176.toInt).toNat; omega)
    · skip
      have k_185 := kk_ne rfl zi_0 c_181
      refine lv_aload_n hx hb dX0_bestDeal_24 rfl (lv_at hl 2 rfl) ?_
      refine va_get (D := D) (ci := 0) (v := .ref b_qworths0) (C := RX0) (T := TX0) (N := 7) hx hb hts inX0 hown hKN.1 hP 0 rfl rfl 4 (by decide) (hts _ tw_423) (fun _ h9 => h9) rfl dX0_bestDeal_25 ?_
      refine lv_iload_n hx hb dX0_bestDeal_28 rfl (lv_at hl 0 rfl) ?_
      refine va_iald hx hb hKN.1 hP 2 1 rfl rfl (vp_in_iff.mpr ⟨by omega, by omega⟩) dX0_bestDeal_29 ?_
      refine lv_topi (fun x_186 ex_186 => ?_)
      refine lv_aload_n hx hb dX0_bestDeal_30 rfl (lv_at hl 2 rfl) ?_
      refine va_get (D := D) (ci := 0) (v := .ref b_qworths1) (C := RX0) (T := TX0) (N := 7) hx hb hts inX0 hown hKN.1 hP 0 rfl rfl 5 (by decide) (hts _ tw_424) (fun _ h9 => h9) rfl dX0_bestDeal_31 ?_
      refine lv_iload_n hx hb dX0_bestDeal_34 rfl (lv_at hl 0 rfl) ?_
      refine va_iald hx hb hKN.1 hP 3 1 rfl rfl (vp_in_iff.mpr ⟨by omega, by omega⟩) dX0_bestDeal_35 ?_
      refine lv_topi (fun x_187 ex_187 => ?_)
      refine lv_imul hx hb dX0_bestDeal_36 ?_
      refine lv_topi (fun x_188 ex_188 => ?_)
      refine lv_aload_n hx hb dX0_bestDeal_37 rfl (lv_at hl 2 rfl) ?_
      refine va_get (D := D) (ci := 0) (v := .ref b_qworths0) (C := RX0) (T := TX0) (N := 7) hx hb hts inX0 hown hKN.1 hP 0 rfl rfl 4 (by decide) (hts _ tw_423) (fun _ h9 => h9) rfl dX0_bestDeal_38 ?_
      refine lv_iload_n hx hb dX0_bestDeal_41 rfl (lv_at hl 1 rfl) ?_
      refine va_iald hx hb hKN.1 hP 2 1 rfl rfl (vp_in_iff.mpr ⟨by omega, by omega⟩) dX0_bestDeal_42 ?_
      refine lv_topi (fun x_190 ex_190 => ?_)
      refine lv_aload_n hx hb dX0_bestDeal_43 rfl (lv_at hl 2 rfl) ?_
      refine va_get (D := D) (ci := 0) (v := .ref b_qworths1) (C := RX0) (T := TX0) (N := 7) hx hb hts inX0 hown hKN.1 hP 0 rfl rfl 5 (by decide) (hts _ tw_424) (fun _ h9 => h9) rfl dX0_bestDeal_44 ?_
      refine lv_iload_n hx hb dX0_bestDeal_47 rfl (lv_at hl 1 rfl) ?_
      refine va_iald hx hb hKN.1 hP 3 1 rfl rfl (vp_in_iff.mpr ⟨by omega, by omega⟩) dX0_bestDeal_48 ?_
      refine lv_topi (fun x_191 ex_191 => ?_)
      refine lv_imul hx hb dX0_bestDeal_49 ?_
      refine lv_topi (fun x_192 ex_192 => ?_)
      refine lv_icmp_le (tgt := 55) hx hb dX0_bestDeal_50 (by decide) (fun c_194 => ?_) (fun c_194 => ?_)
      · skip
        have b_196 := i32_bd x_188
        have b_197 := i32_bd x_192
        have k_195 := kk_le rfl rfl c_194
        obtain ⟨x_198, ex_198⟩ : ∃ y : Int32, L2_176 + Int32.ofInt 1 = y := ⟨_, rfl⟩
        have k_199 := ar_add (b := 1) rfl zi_1 ex_198.symm (by omega) (by omega)
        refine lv_iinc (v := x_198) (lv' := [(2, .int x_198), (1, .int L1_176), (0, .ref h0)]) hx hb dX0_bestDeal_55 hl (k := 0) rfl ex_198 (by decide) rfl (fun ls hl => ?_)
        refine lv_goto (tgt := 8) hx hb dX0_bestDeal_58 (by decide) ?_
        exact ih_176 (x_198, L1_176) _ _ _ ⟨(show 0 ≤ x_198.toInt ∧ x_198.toInt ≤ 128 from by omega), (show 0 ≤ L1_176.toInt ∧ L1_176.toInt ≤ 127 from by omega), hP.sub [0, 1, 2, 3, 4, 5, 6, 7] rfl, hD.sub [0, 1, 2, 3, 4, 5, 6, 7] (by decide) rfl, hS, lv_sub hl [0, 1, 2] rfl⟩ (by show (2147483647 - x_198.toInt).toNat < (2147483647 - L2_176.toInt).toNat; omega)
      · skip
        have b_201 := i32_bd x_188
        have b_202 := i32_bd x_192
        have k_200 := kk_nle rfl rfl c_194
        refine lv_iload_n hx hb dX0_bestDeal_53 rfl (lv_at hl 0 rfl) ?_
        refine lv_istore_n (lv' := [(1, .int L2_176), (2, .int L2_176), (0, .ref h0)]) hx hb dX0_bestDeal_54 rfl hl (by decide) rfl (fun ls hl => ?_)
        obtain ⟨x_203, ex_203⟩ : ∃ y : Int32, L2_176 + Int32.ofInt 1 = y := ⟨_, rfl⟩
        have k_204 := ar_add (b := 1) rfl zi_1 ex_203.symm (by omega) (by omega)
        refine lv_iinc (v := x_203) (lv' := [(2, .int x_203), (1, .int L2_176), (0, .ref h0)]) hx hb dX0_bestDeal_55 hl (k := 1) rfl ex_203 (by decide) rfl (fun ls hl => ?_)
        refine lv_goto (tgt := 8) hx hb dX0_bestDeal_58 (by decide) ?_
        exact ih_176 (x_203, L2_176) _ _ _ ⟨(show 0 ≤ x_203.toInt ∧ x_203.toInt ≤ 128 from by omega), (show 0 ≤ L2_176.toInt ∧ L2_176.toInt ≤ 127 from by omega), hP.sub [0, 1, 2, 3, 4, 5, 6, 7] rfl, hD.sub [0, 1, 2, 3, 4, 5, 6, 7] (by decide) rfl, hS, lv_sub hl [0, 1, 2] rfl⟩ (by show (2147483647 - x_203.toInt).toNat < (2147483647 - L2_176.toInt).toNat; omega)
set_option maxHeartbeats 8000000 in
set_option maxRecDepth 100000 in
theorem g_X0_greatestLesser (l : Launch) (D : va_G) (cA : Nat → ClassId) (sz : Nat) (h0 : Nat) (b_bundlesFound : Int32) (b_firstBundle : Int32) (b_sets : Int32) (b_qlengths : Nat) (b_qworths0 : Nat) (b_qworths1 : Nat) (g : Nat) (b_clengths : Nat → Int32) (b_cworths0 : Nat → Int32) (b_cworths1 : Nat → Int32) (g_odds : Int32) (g_pot : Int32) (g_lines : Int32) (g_men : Int32) (g_clauses : Int32) (g_winds : Int32) (g_far0 : Int32) (g_far1 : Int32) (g_qsides : Nat) (g_qgrips : Nat) (g_qwits : Nat) (g_qsays : Nat) (g_qgives0 : Nat) (g_qgives1 : Nat) (g_qfroms : Nat) (g_qtos : Nat) (g_csays : Nat → Int32) (g_cgives0 : Nat → Int32) (g_cgives1 : Nat → Int32) (h_g_odds : -999 ≤ (g_odds : Int32).toInt ∧ (g_odds : Int32).toInt ≤ 999) (h_g_pot : -999 ≤ (g_pot : Int32).toInt ∧ (g_pot : Int32).toInt ≤ 999) (h_g_men : 0 ≤ (g_men : Int32).toInt ∧ (g_men : Int32).toInt ≤ 8) (h_g_clauses : 0 ≤ (g_clauses : Int32).toInt ∧ (g_clauses : Int32).toInt ≤ 7) (h_g_winds : 0 ≤ (g_winds : Int32).toInt ∧ (g_winds : Int32).toInt ≤ 4) (h_g_far0 : -999 ≤ (g_far0 : Int32).toInt ∧ (g_far0 : Int32).toInt ≤ 999) (h_g_far1 : -999 ≤ (g_far1 : Int32).toInt ∧ (g_far1 : Int32).toInt ≤ 999) : Met l yX0_greatestLesser (Cond.code yX0_greatestLesser cX0_greatestLesser 3 (some .int) :: TB) (rmd 3 0 0) (PM D cA sz [(h0, .inr (0, [.int b_bundlesFound, .int b_firstBundle, .int b_sets, .ref b_qlengths, .ref b_qworths0, .ref b_qworths1, .ref g])), (b_qlengths, .inl (cA 1, 128, .inl b_clengths)), (b_qworths0, .inl (cA 1, 128, .inl b_cworths0)), (b_qworths1, .inl (cA 1, 128, .inl b_cworths1)), (g, .inr (3, [.int g_odds, .int g_pot, .int g_lines, .int g_men, .int g_clauses, .int g_winds, .int g_far0, .int g_far1, .ref g_qsides, .ref g_qgrips, .ref g_qwits, .ref g_qsays, .ref g_qgives0, .ref g_qgives1, .ref g_qfroms, .ref g_qtos])), (g_qsays, .inl (cA 1, 7, .inl g_csays)), (g_qgives0, .inl (cA 1, 7, .inl g_cgives0)), (g_qgives1, .inl (cA 1, 7, .inl g_cgives1))] [.ref h0]) (va_Qi (fun r (u : SU) => (0 ≤ r.toInt) ∧ (1 ≤ (u.2.1 0).toInt ∧ (u.2.1 0).toInt ≤ 128)) (fun u t => va_P D vwCl [(h0, .inr (0, [.int b_bundlesFound, .int b_firstBundle, .int (u.2.1 0), .ref b_qlengths, .ref b_qworths0, .ref b_qworths1, .ref g])), (b_qlengths, .inl (cA 1, 128, .inl (u.2.2.1 0))), (b_qworths0, .inl (cA 1, 128, .inl (u.2.2.1 1))), (b_qworths1, .inl (cA 1, 128, .inl (u.2.2.1 2))), (g, .inr (3, [.int g_odds, .int g_pot, .int g_lines, .int g_men, .int g_clauses, .int g_winds, .int g_far0, .int g_far1, .ref g_qsides, .ref g_qgrips, .ref g_qwits, .ref g_qsays, .ref g_qgives0, .ref g_qgives1, .ref g_qfroms, .ref g_qtos])), (g_qsays, .inl (cA 1, 7, .inl g_csays)), (g_qgives0, .inl (cA 1, 7, .inl g_cgives0)), (g_qgives1, .inl (cA 1, 7, .inl g_cgives1))] t.heap ∧ va_D (va_A [(h0, .inr (0, [.int b_bundlesFound, .int b_firstBundle, .int b_sets, .ref b_qlengths, .ref b_qworths0, .ref b_qworths1, .ref g])), (b_qlengths, .inl (cA 1, 128, .inl b_clengths)), (b_qworths0, .inl (cA 1, 128, .inl b_cworths0)), (b_qworths1, .inl (cA 1, 128, .inl b_cworths1)), (g, .inr (3, [.int g_odds, .int g_pot, .int g_lines, .int g_men, .int g_clauses, .int g_winds, .int g_far0, .int g_far1, .ref g_qsides, .ref g_qgrips, .ref g_qwits, .ref g_qsays, .ref g_qgives0, .ref g_qgives1, .ref g_qfroms, .ref g_qtos])), (g_qsays, .inl (cA 1, 7, .inl g_csays)), (g_qgives0, .inl (cA 1, 7, .inl g_cgives0)), (g_qgives1, .inl (cA 1, 7, .inl g_cgives1))] sz) [(h0, .inr (0, [.int b_bundlesFound, .int b_firstBundle, .int (u.2.1 0), .ref b_qlengths, .ref b_qworths0, .ref b_qworths1, .ref g])), (b_qlengths, .inl (cA 1, 128, .inl (u.2.2.1 0))), (b_qworths0, .inl (cA 1, 128, .inl (u.2.2.1 1))), (b_qworths1, .inl (cA 1, 128, .inl (u.2.2.1 2))), (g, .inr (3, [.int g_odds, .int g_pot, .int g_lines, .int g_men, .int g_clauses, .int g_winds, .int g_far0, .int g_far1, .ref g_qsides, .ref g_qgrips, .ref g_qwits, .ref g_qsays, .ref g_qgives0, .ref g_qgives1, .ref g_qfroms, .ref g_qtos])), (g_qsays, .inl (cA 1, 7, .inl g_csays)), (g_qgives0, .inl (cA 1, 7, .inl g_cgives0)), (g_qgives1, .inl (cA 1, 7, .inl g_cgives1))]) (va_A [(h0, .inr (0, [.int b_bundlesFound, .int b_firstBundle, .int b_sets, .ref b_qlengths, .ref b_qworths0, .ref b_qworths1, .ref g])), (b_qlengths, .inl (cA 1, 128, .inl b_clengths)), (b_qworths0, .inl (cA 1, 128, .inl b_cworths0)), (b_qworths1, .inl (cA 1, 128, .inl b_cworths1)), (g, .inr (3, [.int g_odds, .int g_pot, .int g_lines, .int g_men, .int g_clauses, .int g_winds, .int g_far0, .int g_far1, .ref g_qsides, .ref g_qgrips, .ref g_qwits, .ref g_qsays, .ref g_qgives0, .ref g_qgives1, .ref g_qfroms, .ref g_qtos])), (g_qsays, .inl (cA 1, 7, .inl g_csays)), (g_qgives0, .inl (cA 1, 7, .inl g_cgives0)), (g_qgives1, .inl (cA 1, 7, .inl g_cgives1))] sz)) 0 0 (va_A [(h0, .inr (0, [.int b_bundlesFound, .int b_firstBundle, .int b_sets, .ref b_qlengths, .ref b_qworths0, .ref b_qworths1, .ref g])), (b_qlengths, .inl (cA 1, 128, .inl b_clengths)), (b_qworths0, .inl (cA 1, 128, .inl b_cworths0)), (b_qworths1, .inl (cA 1, 128, .inl b_cworths1)), (g, .inr (3, [.int g_odds, .int g_pot, .int g_lines, .int g_men, .int g_clauses, .int g_winds, .int g_far0, .int g_far1, .ref g_qsides, .ref g_qgrips, .ref g_qwits, .ref g_qsays, .ref g_qgives0, .ref g_qgives1, .ref g_qfroms, .ref g_qtos])), (g_qsays, .inl (cA 1, 7, .inl g_csays)), (g_qgives0, .inl (cA 1, 7, .inl g_cgives0)), (g_qgives1, .inl (cA 1, 7, .inl g_cgives1))] sz) := by
  refine Met.ofW (cc := cX0_greatestLesser) (maxL := 3) (ret := (some .int)) (by decide) rfl ?_
  intro p e s m args below meth c s₁ B hml hv
  obtain ⟨rfl, hsz, hP, hKN, hD0⟩ := hv
  have hx := B.exec
  have hb := B.bytes
  have hr := B.returns
  have hts : ∀ w ∈ TB, w.before _ s = true := fun w h => atoms_spec B.pre w (List.mem_cons_of_mem _ h)
  have hown : s.vm.findClass RX0 = some m.cls := findClass_of_methodNamed B.named
  have hlocks := B.notSynchronized
  subst hsz
  have hD := hD0.self (sz := s.heap.size)
  generalize hAe : va_A [(h0, .inr (0, [.int b_bundlesFound, .int b_firstBundle, .int b_sets, .ref b_qlengths, .ref b_qworths0, .ref b_qworths1, .ref g])), (b_qlengths, .inl (cA 1, 128, .inl b_clengths)), (b_qworths0, .inl (cA 1, 128, .inl b_cworths0)), (b_qworths1, .inl (cA 1, 128, .inl b_cworths1)), (g, .inr (3, [.int g_odds, .int g_pot, .int g_lines, .int g_men, .int g_clauses, .int g_winds, .int g_far0, .int g_far1, .ref g_qsides, .ref g_qgrips, .ref g_qwits, .ref g_qsays, .ref g_qgives0, .ref g_qgives1, .ref g_qfroms, .ref g_qtos])), (g_qsays, .inl (cA 1, 7, .inl g_csays)), (g_qgives0, .inl (cA 1, 7, .inl g_cgives0)), (g_qgives1, .inl (cA 1, 7, .inl g_cgives1))] s.heap.size = A at hD ⊢
  have hA : ∀ q : Nat, s.heap.size ≤ q → A q := fun q h => by rw [← hAe]; exact Or.inr h
  have hS : va_S A s.heap s.heap [] := va_S.rf
  have hl := lv_entry ([.ref h0]) (n := 3) (Nat.le_of_ble_eq_true rfl)
  rw [lg_entry_eq]
  generalize (lg_sl ([.ref h0]) ++ List.replicate (3 - (lg_sl ([.ref h0])).length) Slot.unset).toArray = ls at hl ⊢
  have hl : lv_has ls 3 [(0, .ref h0)] := hl
  refine lv_aload_n hx hb dX0_greatestLesser_0 rfl (lv_at hl 0 rfl) ?_
  refine cmVv (rest := []) (wsC := [(h0, .inr (0, [.int b_bundlesFound, .int b_firstBundle, .int b_sets, .ref b_qlengths, .ref b_qworths0, .ref b_qworths1, .ref g])), (b_qlengths, .inl (cA 1, 128, .inl b_clengths)), (b_qworths0, .inl (cA 1, 128, .inl b_cworths0)), (b_qworths1, .inl (cA 1, 128, .inl b_cworths1)), (g, .inr (3, [.int g_odds, .int g_pot, .int g_lines, .int g_men, .int g_clauses, .int g_winds, .int g_far0, .int g_far1, .ref g_qsides, .ref g_qgrips, .ref g_qwits, .ref g_qsays, .ref g_qgives0, .ref g_qgives1, .ref g_qfroms, .ref g_qtos])), (g_qsays, .inl (cA 1, 7, .inl g_csays)), (g_qgives0, .inl (cA 1, 7, .inl g_cgives0)), (g_qgives1, .inl (cA 1, 7, .inl g_cgives1))]) (wr := []) ⟨hx, hb, hml, hown, hts⟩ hKN hP hD hS hA [0, 1, 2, 3, 4, 5, 6, 7] [] rfl rfl (by decide) (by decide) (by decide) (g_X0_weighSets l D cA _ h0 b_bundlesFound b_firstBundle b_sets b_qlengths b_qworths0 b_qworths1 g b_clengths b_cworths0 b_cworths1 g_odds g_pot g_lines g_men g_clauses g_winds g_far0 g_far1 g_qsides g_qgrips g_qwits g_qsays g_qgives0 g_qgives1 g_qfroms g_qtos g_csays g_cgives0 g_cgives1 (by omega) (by omega) (by omega) (by omega) (by omega) (by omega) (by omega)) (tb_V tw_1047 tw_1049 tw_22 tw_112 tw_1050) hdX0_weighSets ⟨rfl, rfl, Nat.le_of_ble_eq_true rfl, Nat.le_of_ble_eq_true rfl⟩ ⟨Nat.le_of_ble_eq_true rfl, Nat.le_of_ble_eq_true rfl⟩ rfl rfl rfl hl.1 rfl (Nat.le_of_ble_eq_true rfl) dX0_greatestLesser_1 (fun u_1 H locs hr_1 hP hD hS => ?_)
  have hP : va_P D vwCl [(h0, .inr (0, [.int b_bundlesFound, .int b_firstBundle, .int (u_1.2.1 0), .ref b_qlengths, .ref b_qworths0, .ref b_qworths1, .ref g])), (b_qlengths, .inl (cA 1, 128, .inl (u_1.2.2.1 0))), (b_qworths0, .inl (cA 1, 128, .inl (u_1.2.2.1 1))), (b_qworths1, .inl (cA 1, 128, .inl (u_1.2.2.1 2))), (g, .inr (3, [.int g_odds, .int g_pot, .int g_lines, .int g_men, .int g_clauses, .int g_winds, .int g_far0, .int g_far1, .ref g_qsides, .ref g_qgrips, .ref g_qwits, .ref g_qsays, .ref g_qgives0, .ref g_qgives1, .ref g_qfroms, .ref g_qtos])), (g_qsays, .inl (cA 1, 7, .inl g_csays)), (g_qgives0, .inl (cA 1, 7, .inl g_cgives0)), (g_qgives1, .inl (cA 1, 7, .inl g_cgives1))] H := hP
  have hD : va_D A [(h0, .inr (0, [.int b_bundlesFound, .int b_firstBundle, .int (u_1.2.1 0), .ref b_qlengths, .ref b_qworths0, .ref b_qworths1, .ref g])), (b_qlengths, .inl (cA 1, 128, .inl (u_1.2.2.1 0))), (b_qworths0, .inl (cA 1, 128, .inl (u_1.2.2.1 1))), (b_qworths1, .inl (cA 1, 128, .inl (u_1.2.2.1 2))), (g, .inr (3, [.int g_odds, .int g_pot, .int g_lines, .int g_men, .int g_clauses, .int g_winds, .int g_far0, .int g_far1, .ref g_qsides, .ref g_qgrips, .ref g_qwits, .ref g_qsays, .ref g_qgives0, .ref g_qgives1, .ref g_qfroms, .ref g_qtos])), (g_qsays, .inl (cA 1, 7, .inl g_csays)), (g_qgives0, .inl (cA 1, 7, .inl g_cgives0)), (g_qgives1, .inl (cA 1, 7, .inl g_cgives1))] := hD
  have hr_1_0 := hr_1
  refine lv_iconst (v := 0) hx hb dX0_greatestLesser_4 (by decide) ?_
  refine lv_istore_n (lv' := [(1, .int 0), (0, .ref h0)]) hx hb dX0_greatestLesser_5 rfl hl (by decide) rfl (fun ls hl => ?_)
  refine lv_iconst (v := 0) hx hb dX0_greatestLesser_6 (by decide) ?_
  refine lv_istore_n (lv' := [(2, .int 0), (1, .int 0), (0, .ref h0)]) hx hb dX0_greatestLesser_7 rfl hl (by decide) rfl (fun ls hl => ?_)
  refine loopW (σ := Int32 × Int32) (fun _ => []) (fun ⟨L2_52, L1_52⟩ H locs ls => (0 ≤ L2_52.toInt ∧ L2_52.toInt ≤ 128) ∧ (0 ≤ L1_52.toInt) ∧ va_P D vwCl [(h0, .inr (0, [.int b_bundlesFound, .int b_firstBundle, .int (u_1.2.1 0), .ref b_qlengths, .ref b_qworths0, .ref b_qworths1, .ref g])), (b_qlengths, .inl (cA 1, 128, .inl (u_1.2.2.1 0))), (b_qworths0, .inl (cA 1, 128, .inl (u_1.2.2.1 1))), (b_qworths1, .inl (cA 1, 128, .inl (u_1.2.2.1 2))), (g, .inr (3, [.int g_odds, .int g_pot, .int g_lines, .int g_men, .int g_clauses, .int g_winds, .int g_far0, .int g_far1, .ref g_qsides, .ref g_qgrips, .ref g_qwits, .ref g_qsays, .ref g_qgives0, .ref g_qgives1, .ref g_qfroms, .ref g_qtos])), (g_qsays, .inl (cA 1, 7, .inl g_csays)), (g_qgives0, .inl (cA 1, 7, .inl g_cgives0)), (g_qgives1, .inl (cA 1, 7, .inl g_cgives1))] H ∧ va_D A [(h0, .inr (0, [.int b_bundlesFound, .int b_firstBundle, .int (u_1.2.1 0), .ref b_qlengths, .ref b_qworths0, .ref b_qworths1, .ref g])), (b_qlengths, .inl (cA 1, 128, .inl (u_1.2.2.1 0))), (b_qworths0, .inl (cA 1, 128, .inl (u_1.2.2.1 1))), (b_qworths1, .inl (cA 1, 128, .inl (u_1.2.2.1 2))), (g, .inr (3, [.int g_odds, .int g_pot, .int g_lines, .int g_men, .int g_clauses, .int g_winds, .int g_far0, .int g_far1, .ref g_qsides, .ref g_qgrips, .ref g_qwits, .ref g_qsays, .ref g_qgives0, .ref g_qgives1, .ref g_qfroms, .ref g_qtos])), (g_qsays, .inl (cA 1, 7, .inl g_csays)), (g_qgives0, .inl (cA 1, 7, .inl g_cgives0)), (g_qgives1, .inl (cA 1, 7, .inl g_cgives1))] ∧ va_S A s.heap H locs ∧ lv_has ls 3 [(2, .int L2_52), (1, .int L1_52), (0, .ref h0)]) (fun ⟨L2_52, L1_52⟩ => (2147483647 - L2_52.toInt).toNat) ?_ ((0, 0) : Int32 × Int32) ⟨(by decide), (by decide), hP, hD, hS, hl⟩
  intro x_52 H locs ls hI_52 ih_52
  obtain ⟨L2_52, L1_52⟩ := x_52
  obtain ⟨k0_52, k1_52, hP, hD, hS, hl⟩ := hI_52
  have hP : va_P D vwCl [(h0, .inr (0, [.int b_bundlesFound, .int b_firstBundle, .int (u_1.2.1 0), .ref b_qlengths, .ref b_qworths0, .ref b_qworths1, .ref g])), (b_qlengths, .inl (cA 1, 128, .inl (u_1.2.2.1 0))), (b_qworths0, .inl (cA 1, 128, .inl (u_1.2.2.1 1))), (b_qworths1, .inl (cA 1, 128, .inl (u_1.2.2.1 2))), (g, .inr (3, [.int g_odds, .int g_pot, .int g_lines, .int g_men, .int g_clauses, .int g_winds, .int g_far0, .int g_far1, .ref g_qsides, .ref g_qgrips, .ref g_qwits, .ref g_qsays, .ref g_qgives0, .ref g_qgives1, .ref g_qfroms, .ref g_qtos])), (g_qsays, .inl (cA 1, 7, .inl g_csays)), (g_qgives0, .inl (cA 1, 7, .inl g_cgives0)), (g_qgives1, .inl (cA 1, 7, .inl g_cgives1))] H := hP
  have hD : va_D A [(h0, .inr (0, [.int b_bundlesFound, .int b_firstBundle, .int (u_1.2.1 0), .ref b_qlengths, .ref b_qworths0, .ref b_qworths1, .ref g])), (b_qlengths, .inl (cA 1, 128, .inl (u_1.2.2.1 0))), (b_qworths0, .inl (cA 1, 128, .inl (u_1.2.2.1 1))), (b_qworths1, .inl (cA 1, 128, .inl (u_1.2.2.1 2))), (g, .inr (3, [.int g_odds, .int g_pot, .int g_lines, .int g_men, .int g_clauses, .int g_winds, .int g_far0, .int g_far1, .ref g_qsides, .ref g_qgrips, .ref g_qwits, .ref g_qsays, .ref g_qgives0, .ref g_qgives1, .ref g_qfroms, .ref g_qtos])), (g_qsays, .inl (cA 1, 7, .inl g_csays)), (g_qgives0, .inl (cA 1, 7, .inl g_cgives0)), (g_qgives1, .inl (cA 1, 7, .inl g_cgives1))] := hD
  have hl : lv_has ls 3 [(2, .int L2_52), (1, .int L1_52), (0, .ref h0)] := hl
  refine lv_iload_n hx hb dX0_greatestLesser_8 rfl (lv_at hl 0 rfl) ?_
  refine lv_aload_n hx hb dX0_greatestLesser_9 rfl (lv_at hl 2 rfl) ?_
  refine va_get (D := D) (ci := 0) (v := .int (u_1.2.1 0)) (C := RX0) (T := TX0) (N := 7) hx hb hts inX0 hown hKN.1 hP 0 rfl rfl 2 (by decide) (hts _ tw_421) (fun _ h9 => h9) rfl dX0_greatestLesser_10 ?_
  refine lv_icmp_ge (tgt := 42) hx hb dX0_greatestLesser_13 (by decide) (fun c_53 => ?_) (fun c_53 => ?_)
  · skip
    have k_54 := kk_le rfl rfl c_53
    refine lv_iload_n hx hb dX0_greatestLesser_42 rfl (lv_at hl 1 rfl) ?_
    have hP9 := hP.sub (ws' := [(h0, .inr (0, [.int b_bundlesFound, .int b_firstBundle, .int (u_1.2.1 0), .ref b_qlengths, .ref b_qworths0, .ref b_qworths1, .ref g])), (b_qlengths, .inl (cA 1, 128, .inl (u_1.2.2.1 0))), (b_qworths0, .inl (cA 1, 128, .inl (u_1.2.2.1 1))), (b_qworths1, .inl (cA 1, 128, .inl (u_1.2.2.1 2))), (g, .inr (3, [.int g_odds, .int g_pot, .int g_lines, .int g_men, .int g_clauses, .int g_winds, .int g_far0, .int g_far1, .ref g_qsides, .ref g_qgrips, .ref g_qwits, .ref g_qsays, .ref g_qgives0, .ref g_qgives1, .ref g_qfroms, .ref g_qtos])), (g_qsays, .inl (cA 1, 7, .inl g_csays)), (g_qgives0, .inl (cA 1, 7, .inl g_cgives0)), (g_qgives1, .inl (cA 1, 7, .inl g_cgives1))]) [0, 1, 2, 3, 4, 5, 6, 7] rfl
    have hD9 := hD.sub (ws' := [(h0, .inr (0, [.int b_bundlesFound, .int b_firstBundle, .int (u_1.2.1 0), .ref b_qlengths, .ref b_qworths0, .ref b_qworths1, .ref g])), (b_qlengths, .inl (cA 1, 128, .inl (u_1.2.2.1 0))), (b_qworths0, .inl (cA 1, 128, .inl (u_1.2.2.1 1))), (b_qworths1, .inl (cA 1, 128, .inl (u_1.2.2.1 2))), (g, .inr (3, [.int g_odds, .int g_pot, .int g_lines, .int g_men, .int g_clauses, .int g_winds, .int g_far0, .int g_far1, .ref g_qsides, .ref g_qgrips, .ref g_qwits, .ref g_qsays, .ref g_qgives0, .ref g_qgives1, .ref g_qfroms, .ref g_qtos])), (g_qsays, .inl (cA 1, 7, .inl g_csays)), (g_qgives0, .inl (cA 1, 7, .inl g_cgives0)), (g_qgives1, .inl (cA 1, 7, .inl g_cgives1))]) [0, 1, 2, 3, 4, 5, 6, 7] (by decide) rfl
    exact W.iret (v := L1_52) hx hb hr (fun t ht hW => ⟨⟨L1_52, ((fun _ => 0), (selI [(u_1.2.1 0)]), (selF [(u_1.2.2.1 0), (u_1.2.2.1 1), (u_1.2.2.1 2)]), (fun _ _ => 0)), rfl, ⟨(show 0 ≤ L1_52.toInt from by omega), (show 1 ≤ (u_1.2.1 0).toInt ∧ (u_1.2.1 0).toInt ≤ 128 from by omega)⟩, by rw [ht]; exact hP9, hD9⟩, hS.F ht⟩) hS.2.2 dX0_greatestLesser_43
  · skip
    have k_55 := kk_nle rfl rfl c_53
    refine lv_iload_n hx hb dX0_greatestLesser_16 rfl (lv_at hl 1 rfl) ?_
    refine lv_aload_n hx hb dX0_greatestLesser_17 rfl (lv_at hl 2 rfl) ?_
    refine va_get (D := D) (ci := 0) (v := .ref b_qworths0) (C := RX0) (T := TX0) (N := 7) hx hb hts inX0 hown hKN.1 hP 0 rfl rfl 4 (by decide) (hts _ tw_423) (fun _ h9 => h9) rfl dX0_greatestLesser_18 ?_
    refine lv_iload_n hx hb dX0_greatestLesser_21 rfl (lv_at hl 0 rfl) ?_
    refine va_iald hx hb hKN.1 hP 2 1 rfl rfl (vp_in_iff.mpr ⟨by omega, by omega⟩) dX0_greatestLesser_22 ?_
    refine lv_topi (fun x_56 ex_56 => ?_)
    refine lv_aload_n hx hb dX0_greatestLesser_23 rfl (lv_at hl 2 rfl) ?_
    refine va_get (D := D) (ci := 0) (v := .ref b_qworths1) (C := RX0) (T := TX0) (N := 7) hx hb hts inX0 hown hKN.1 hP 0 rfl rfl 5 (by decide) (hts _ tw_424) (fun _ h9 => h9) rfl dX0_greatestLesser_24 ?_
    refine lv_iload_n hx hb dX0_greatestLesser_27 rfl (lv_at hl 0 rfl) ?_
    refine va_iald hx hb hKN.1 hP 3 1 rfl rfl (vp_in_iff.mpr ⟨by omega, by omega⟩) dX0_greatestLesser_28 ?_
    refine lv_topi (fun x_57 ex_57 => ?_)
    refine cpSi (rest := [.int L1_52]) ⟨hx, hb, hml, hown, hts⟩ hKN (hP.sub (ws' := []) [] rfl) (g_J9_min_7cf53 l D cA x_56 x_57) (tb_S tw_1052 tw_555 tw_115 tw_556) hdJ9_min_7cf53 ⟨rfl, rfl, Nat.le_of_ble_eq_true rfl, Nat.le_of_ble_eq_true rfl⟩ ⟨Nat.le_of_ble_eq_true rfl, Nat.le_of_ble_eq_true rfl⟩ rfl hl.1 rfl (Nat.le_of_ble_eq_true rfl) dX0_greatestLesser_29 (fun r_58 hr_58 => ?_)
    obtain ⟨k_58_0_0, k_58_0_1, k_58_0_2⟩ := hr_58
    refine cpSi (rest := []) ⟨hx, hb, hml, hown, hts⟩ hKN (hP.sub (ws' := []) [] rfl) (g_J9_max_7cf53 l D cA L1_52 r_58) (tb_S tw_1122 tw_779 tw_115 tw_780) hdJ9_max_7cf53 ⟨rfl, rfl, Nat.le_of_ble_eq_true rfl, Nat.le_of_ble_eq_true rfl⟩ ⟨Nat.le_of_ble_eq_true rfl, Nat.le_of_ble_eq_true rfl⟩ rfl hl.1 rfl (Nat.le_of_ble_eq_true rfl) dX0_greatestLesser_32 (fun r_59 hr_59 => ?_)
    obtain ⟨k_59_0_0, k_59_0_1, k_59_0_2⟩ := hr_59
    refine lv_istore_n (lv' := [(1, .int r_59), (2, .int L2_52), (0, .ref h0)]) hx hb dX0_greatestLesser_35 rfl hl (by decide) rfl (fun ls hl => ?_)
    obtain ⟨x_60, ex_60⟩ : ∃ y : Int32, L2_52 + Int32.ofInt 1 = y := ⟨_, rfl⟩
    have k_61 := ar_add (b := 1) rfl zi_1 ex_60.symm (by omega) (by omega)
    refine lv_iinc (v := x_60) (lv' := [(2, .int x_60), (1, .int r_59), (0, .ref h0)]) hx hb dX0_greatestLesser_36 hl (k := 1) rfl ex_60 (by decide) rfl (fun ls hl => ?_)
    refine lv_goto (tgt := 8) hx hb dX0_greatestLesser_39 (by decide) ?_
    exact ih_52 (x_60, r_59) _ _ _ ⟨(show 0 ≤ x_60.toInt ∧ x_60.toInt ≤ 128 from by omega), (show 0 ≤ r_59.toInt from by omega), hP.sub [0, 1, 2, 3, 4, 5, 6, 7] rfl, hD.sub [0, 1, 2, 3, 4, 5, 6, 7] (by decide) rfl, hS, lv_sub hl [0, 1, 2] rfl⟩ (by show (2147483647 - x_60.toInt).toNat < (2147483647 - L2_52.toInt).toNat; omega)
set_option maxHeartbeats 8000000 in
set_option maxRecDepth 100000 in
theorem g_X0_leftOut (l : Launch) (D : va_G) (cA : Nat → ClassId) (h0 : Nat) (b_bundlesFound : Int32) (b_firstBundle : Int32) (b_sets : Int32) (b_qlengths : Nat) (b_qworths0 : Nat) (b_qworths1 : Nat) (g : Nat) (g_odds : Int32) (g_pot : Int32) (g_lines : Int32) (g_men : Int32) (g_clauses : Int32) (g_winds : Int32) (g_far0 : Int32) (g_far1 : Int32) (g_qsides : Nat) (g_qgrips : Nat) (g_qwits : Nat) (g_qsays : Nat) (g_qgives0 : Nat) (g_qgives1 : Nat) (g_qfroms : Nat) (g_qtos : Nat) (g_cgives0 : Nat → Int32) (g_cgives1 : Nat → Int32) (p0 : Int32) (h_g_odds : -999 ≤ (g_odds : Int32).toInt ∧ (g_odds : Int32).toInt ≤ 999) (h_g_pot : -999 ≤ (g_pot : Int32).toInt ∧ (g_pot : Int32).toInt ≤ 999) (h_g_men : 0 ≤ (g_men : Int32).toInt ∧ (g_men : Int32).toInt ≤ 8) (h_g_clauses : 0 ≤ (g_clauses : Int32).toInt ∧ (g_clauses : Int32).toInt ≤ 7) (h_g_winds : 0 ≤ (g_winds : Int32).toInt ∧ (g_winds : Int32).toInt ≤ 4) (h_g_far0 : -999 ≤ (g_far0 : Int32).toInt ∧ (g_far0 : Int32).toInt ≤ 999) (h_g_far1 : -999 ≤ (g_far1 : Int32).toInt ∧ (g_far1 : Int32).toInt ≤ 999) : Met l yX0_leftOut (Cond.code yX0_leftOut cX0_leftOut 5 (some .int) :: TB) (rmd 3 0 0) (PP D cA [(h0, .inr (0, [.int b_bundlesFound, .int b_firstBundle, .int b_sets, .ref b_qlengths, .ref b_qworths0, .ref b_qworths1, .ref g])), (g, .inr (3, [.int g_odds, .int g_pot, .int g_lines, .int g_men, .int g_clauses, .int g_winds, .int g_far0, .int g_far1, .ref g_qsides, .ref g_qgrips, .ref g_qwits, .ref g_qsays, .ref g_qgives0, .ref g_qgives1, .ref g_qfroms, .ref g_qtos])), (g_qgives0, .inl (cA 1, 7, .inl g_cgives0)), (g_qgives1, .inl (cA 1, 7, .inl g_cgives1))] [.ref h0, .int p0]) (vp_Si (fun r => 0 ≤ r.toInt ∧ r.toInt ≤ 127)) 0 0 (fun _ => False) := by
  refine Met.ofW (cc := cX0_leftOut) (maxL := 5) (ret := (some .int)) (by decide) rfl ?_
  intro p e s m args below meth c s₁ B hml hv
  obtain ⟨rfl, hP, hKN⟩ := hv
  have hx := B.exec
  have hb := B.bytes
  have hr := B.returns
  have hts : ∀ w ∈ TB, w.before _ s = true := fun w h => atoms_spec B.pre w (List.mem_cons_of_mem _ h)
  have hown : s.vm.findClass RX0 = some m.cls := findClass_of_methodNamed B.named
  have hlocks := B.notSynchronized
  have hl := lv_entry ([.ref h0, .int p0]) (n := 5) (Nat.le_of_ble_eq_true rfl)
  rw [lg_entry_eq]
  generalize (lg_sl ([.ref h0, .int p0]) ++ List.replicate (5 - (lg_sl ([.ref h0, .int p0])).length) Slot.unset).toArray = ls at hl ⊢
  have hl : lv_has ls 5 [(0, .ref h0), (1, .int p0)] := hl
  refine lv_aload_n hx hb dX0_leftOut_0 rfl (lv_at hl 0 rfl) ?_
  refine va_get (D := D) (ci := 0) (v := .ref g) (C := RX0) (T := TX0) (N := 7) hx hb hts inX0 hown hKN.1 hP 0 rfl rfl 6 (by decide) (hts _ tw_425) (fun _ h9 => h9) rfl dX0_leftOut_1 ?_
  refine cpVi (rest := []) ⟨hx, hb, hml, hown, hts⟩ hKN (hP.sub (ws' := [(g, .inr (3, [.int g_odds, .int g_pot, .int g_lines, .int g_men, .int g_clauses, .int g_winds, .int g_far0, .int g_far1, .ref g_qsides, .ref g_qgrips, .ref g_qwits, .ref g_qsays, .ref g_qgives0, .ref g_qgives1, .ref g_qfroms, .ref g_qtos]))]) [1] rfl) (g_X3_allClauses l D cA g g_odds g_pot g_lines g_men g_clauses g_winds g_far0 g_far1 g_qsides g_qgrips g_qwits g_qsays g_qgives0 g_qgives1 g_qfroms g_qtos (by omega) (by omega) (by omega) (by omega) (by omega) (by omega) (by omega)) (tb_V tw_1051 tw_1001 tw_1002 tw_104 tw_1003) hdX3_allClauses ⟨rfl, rfl, Nat.le_of_ble_eq_true rfl, Nat.le_of_ble_eq_true rfl⟩ ⟨Nat.le_of_ble_eq_true rfl, Nat.le_of_ble_eq_true rfl⟩ rfl rfl rfl hl.1 rfl (Nat.le_of_ble_eq_true rfl) dX0_leftOut_4 (fun r_1 hr_1 => ?_)
  refine lv_istore_n (lv' := [(2, .int r_1), (0, .ref h0), (1, .int p0)]) hx hb dX0_leftOut_7 rfl hl (by decide) rfl (fun ls hl => ?_)
  refine lv_iload_n hx hb dX0_leftOut_8 rfl (lv_at hl 0 rfl) ?_
  refine lv_istore_n (lv' := [(3, .int r_1), (2, .int r_1), (0, .ref h0), (1, .int p0)]) hx hb dX0_leftOut_9 rfl hl (by decide) rfl (fun ls hl => ?_)
  refine lv_iconst (v := 0) hx hb dX0_leftOut_10 (by decide) ?_
  refine lv_istore (lv' := [(4, .int 0), (3, .int r_1), (2, .int r_1), (0, .ref h0), (1, .int p0)]) hx hb dX0_leftOut_11 hl (by decide) rfl (fun ls hl => ?_)
  refine loopW (σ := Int32 × Int32) (fun _ => []) (fun ⟨L4_127, L3_127⟩ H locs ls => (0 ≤ L4_127.toInt ∧ L4_127.toInt ≤ 127) ∧ (0 ≤ L3_127.toInt ∧ L3_127.toInt ≤ 127) ∧ H = s.heap ∧ locs = [] ∧ lv_has ls 5 [(4, .int L4_127), (3, .int L3_127), (2, .int r_1), (0, .ref h0), (1, .int p0)]) (fun ⟨L4_127, L3_127⟩ => (2147483647 - L4_127.toInt).toNat) ?_ ((0, r_1) : Int32 × Int32) ⟨(by decide), (show 0 ≤ r_1.toInt ∧ r_1.toInt ≤ 127 from by omega), rfl, rfl, hl⟩
  intro x_127 H locs ls hI_127 ih_127
  obtain ⟨L4_127, L3_127⟩ := x_127
  obtain ⟨k0_127, k1_127, rfl, rfl, hl⟩ := hI_127
  have hl : lv_has ls 5 [(4, .int L4_127), (3, .int L3_127), (2, .int r_1), (0, .ref h0), (1, .int p0)] := hl
  refine lv_iload hx hb dX0_leftOut_13 (lv_at hl 0 rfl) ?_
  refine lv_iload_n hx hb dX0_leftOut_15 rfl (lv_at hl 2 rfl) ?_
  refine lv_icmp_ge (tgt := 57) hx hb dX0_leftOut_16 (by decide) (fun c_128 => ?_) (fun c_128 => ?_)
  · skip
    have k_129 := kk_le rfl rfl c_128
    refine lv_iload_n hx hb dX0_leftOut_57 rfl (lv_at hl 1 rfl) ?_
    exact W.iret (v := L3_127) hx hb hr (fun t ht hW => ⟨L3_127, rfl, (show 0 ≤ L3_127.toInt ∧ L3_127.toInt ≤ 127 from by omega), ht⟩) (fun _ h => by cases h) dX0_leftOut_58
  · skip
    have k_130 := kk_nle rfl rfl c_128
    refine lv_iload hx hb dX0_leftOut_19 (lv_at hl 0 rfl) ?_
    refine cpSi (rest := []) ⟨hx, hb, hml, hown, hts⟩ hKN (hP.sub (ws' := []) [] rfl) (g_J6_bitCount_0f7a4 l D cA L4_127) (tb_S tw_1055 tw_1056 tw_121 tw_1057) hdJ6_bitCount_0f7a4 ⟨rfl, rfl, Nat.le_of_ble_eq_true rfl, Nat.le_of_ble_eq_true rfl⟩ ⟨Nat.le_of_ble_eq_true rfl, Nat.le_of_ble_eq_true rfl⟩ rfl hl.1 rfl (Nat.le_of_ble_eq_true rfl) dX0_leftOut_21 (fun r_131 hr_131 => ?_)
    refine lv_iload_n hx hb dX0_leftOut_24 rfl (lv_at hl 1 rfl) ?_
    refine cpSi (rest := [.int r_131]) ⟨hx, hb, hml, hown, hts⟩ hKN (hP.sub (ws' := []) [] rfl) (g_J6_bitCount_0f7a4 l D cA L3_127) (tb_S tw_1055 tw_1056 tw_121 tw_1057) hdJ6_bitCount_0f7a4 ⟨rfl, rfl, Nat.le_of_ble_eq_true rfl, Nat.le_of_ble_eq_true rfl⟩ ⟨Nat.le_of_ble_eq_true rfl, Nat.le_of_ble_eq_true rfl⟩ rfl hl.1 rfl (Nat.le_of_ble_eq_true rfl) dX0_leftOut_25 (fun r_132 hr_132 => ?_)
    refine lv_icmp_ge (tgt := 51) hx hb dX0_leftOut_28 (by decide) (fun c_133 => ?_) (fun c_133 => ?_)
    · skip
      have k_134 := kk_le rfl rfl c_133
      obtain ⟨x_135, ex_135⟩ : ∃ y : Int32, L4_127 + Int32.ofInt 1 = y := ⟨_, rfl⟩
      have k_136 := ar_add (b := 1) rfl zi_1 ex_135.symm (by omega) (by omega)
      refine lv_iinc (v := x_135) (lv' := [(4, .int x_135), (3, .int L3_127), (2, .int r_1), (0, .ref h0), (1, .int p0)]) hx hb dX0_leftOut_51 hl (k := 0) rfl ex_135 (by decide) rfl (fun ls hl => ?_)
      refine lv_goto (tgt := 13) hx hb dX0_leftOut_54 (by decide) ?_
      exact ih_127 (x_135, L3_127) _ _ _ ⟨(show 0 ≤ x_135.toInt ∧ x_135.toInt ≤ 127 from by omega), (show 0 ≤ L3_127.toInt ∧ L3_127.toInt ≤ 127 from by omega), rfl, rfl, lv_sub hl [0, 1, 2, 3, 4] rfl⟩ (by show (2147483647 - x_135.toInt).toNat < (2147483647 - L4_127.toInt).toNat; omega)
    · skip
      have k_137 := kk_nle rfl rfl c_133
      refine lv_aload_n hx hb dX0_leftOut_31 rfl (lv_at hl 3 rfl) ?_
      refine va_get (D := D) (ci := 0) (v := .ref g) (C := RX0) (T := TX0) (N := 7) hx hb hts inX0 hown hKN.1 hP 0 rfl rfl 6 (by decide) (hts _ tw_425) (fun _ h9 => h9) rfl dX0_leftOut_32 ?_
      refine lv_iload_n hx hb dX0_leftOut_35 rfl (lv_at hl 2 rfl) ?_
      refine lv_iload hx hb dX0_leftOut_36 (lv_at hl 0 rfl) ?_
      refine lv_iconst (v := (-1)) hx hb dX0_leftOut_38 (by decide) ?_
      refine lv_ixor hx hb dX0_leftOut_39 ?_
      refine lv_topi (fun x_138 ex_138 => ?_)
      refine lv_iand hx hb dX0_leftOut_40 ?_
      refine lv_topi (fun x_140 ex_140 => ?_)
      have k_141 := ar_andL rfl ex_140 (by omega)
      refine lv_iload_n hx hb dX0_leftOut_41 rfl (lv_at hl 4 rfl) ?_
      refine cpVi (rest := []) ⟨hx, hb, hml, hown, hts⟩ hKN (hP.sub (ws' := [(g, .inr (3, [.int g_odds, .int g_pot, .int g_lines, .int g_men, .int g_clauses, .int g_winds, .int g_far0, .int g_far1, .ref g_qsides, .ref g_qgrips, .ref g_qwits, .ref g_qsays, .ref g_qgives0, .ref g_qgives1, .ref g_qfroms, .ref g_qtos])), (g_qgives0, .inl (cA 1, 7, .inl g_cgives0)), (g_qgives1, .inl (cA 1, 7, .inl g_cgives1))]) [1, 2, 3] rfl) (g_X3_worthOf l D cA g g_odds g_pot g_lines g_men g_clauses g_winds g_far0 g_far1 g_qsides g_qgrips g_qwits g_qsays g_qgives0 g_qgives1 g_qfroms g_qtos g_cgives0 g_cgives1 x_140 p0 (by omega) (by omega) (by omega) (by omega) (by omega) (by omega) (by omega)) (tb_V tw_1078 tw_1079 tw_1080 tw_104 tw_1081) hdX3_worthOf ⟨rfl, rfl, Nat.le_of_ble_eq_true rfl, Nat.le_of_ble_eq_true rfl⟩ ⟨Nat.le_of_ble_eq_true rfl, Nat.le_of_ble_eq_true rfl⟩ rfl rfl rfl hl.1 rfl (Nat.le_of_ble_eq_true rfl) dX0_leftOut_42 (fun r_142 hr_142 => ?_)
      refine lv_if_lt (tgt := 51) hx hb dX0_leftOut_45 (by decide) (fun c_143 => ?_) (fun c_143 => ?_)
      · skip
        have b_145 := i32_bd r_142
        have k_144 := kk_lt rfl zi_0 c_143
        obtain ⟨x_146, ex_146⟩ : ∃ y : Int32, L4_127 + Int32.ofInt 1 = y := ⟨_, rfl⟩
        have k_147 := ar_add (b := 1) rfl zi_1 ex_146.symm (by omega) (by omega)
        refine lv_iinc (v := x_146) (lv' := [(4, .int x_146), (3, .int L3_127), (2, .int r_1), (0, .ref h0), (1, .int p0)]) hx hb dX0_leftOut_51 hl (k := 0) rfl ex_146 (by decide) rfl (fun ls hl => ?_)
        refine lv_goto (tgt := 13) hx hb dX0_leftOut_54 (by decide) ?_
        exact ih_127 (x_146, L3_127) _ _ _ ⟨(show 0 ≤ x_146.toInt ∧ x_146.toInt ≤ 127 from by omega), (show 0 ≤ L3_127.toInt ∧ L3_127.toInt ≤ 127 from by omega), rfl, rfl, lv_sub hl [0, 1, 2, 3, 4] rfl⟩ (by show (2147483647 - x_146.toInt).toNat < (2147483647 - L4_127.toInt).toNat; omega)
      · skip
        have b_149 := i32_bd r_142
        have k_148 := kk_nlt rfl zi_0 c_143
        refine lv_iload hx hb dX0_leftOut_48 (lv_at hl 0 rfl) ?_
        refine lv_istore_n (lv' := [(3, .int L4_127), (4, .int L4_127), (2, .int r_1), (0, .ref h0), (1, .int p0)]) hx hb dX0_leftOut_50 rfl hl (by decide) rfl (fun ls hl => ?_)
        obtain ⟨x_150, ex_150⟩ : ∃ y : Int32, L4_127 + Int32.ofInt 1 = y := ⟨_, rfl⟩
        have k_151 := ar_add (b := 1) rfl zi_1 ex_150.symm (by omega) (by omega)
        refine lv_iinc (v := x_150) (lv' := [(4, .int x_150), (3, .int L4_127), (2, .int r_1), (0, .ref h0), (1, .int p0)]) hx hb dX0_leftOut_51 hl (k := 1) rfl ex_150 (by decide) rfl (fun ls hl => ?_)
        refine lv_goto (tgt := 13) hx hb dX0_leftOut_54 (by decide) ?_
        exact ih_127 (x_150, L4_127) _ _ _ ⟨(show 0 ≤ x_150.toInt ∧ x_150.toInt ≤ 127 from by omega), (show 0 ≤ L4_127.toInt ∧ L4_127.toInt ≤ 127 from by omega), rfl, rfl, lv_sub hl [0, 1, 2, 3, 4] rfl⟩ (by show (2147483647 - x_150.toInt).toNat < (2147483647 - L4_127.toInt).toNat; omega)
set_option maxHeartbeats 8000000 in
set_option maxRecDepth 100000 in
theorem g_X0_findBundles (l : Launch) (D : va_G) (cA : Nat → ClassId) (sz : Nat) (h0 : Nat) (b_bundlesFound : Int32) (b_firstBundle : Int32) (b_sets : Int32) (b_qlengths : Nat) (b_qworths0 : Nat) (b_qworths1 : Nat) (g : Nat) (b_clengths : Nat → Int32) (b_cworths0 : Nat → Int32) (b_cworths1 : Nat → Int32) (g_odds : Int32) (g_pot : Int32) (g_lines : Int32) (g_men : Int32) (g_clauses : Int32) (g_winds : Int32) (g_far0 : Int32) (g_far1 : Int32) (g_qsides : Nat) (g_qgrips : Nat) (g_qwits : Nat) (g_qsays : Nat) (g_qgives0 : Nat) (g_qgives1 : Nat) (g_qfroms : Nat) (g_qtos : Nat) (g_csays : Nat → Int32) (g_cgives0 : Nat → Int32) (g_cgives1 : Nat → Int32) (h_g_odds : -999 ≤ (g_odds : Int32).toInt ∧ (g_odds : Int32).toInt ≤ 999) (h_g_pot : -999 ≤ (g_pot : Int32).toInt ∧ (g_pot : Int32).toInt ≤ 999) (h_g_men : 0 ≤ (g_men : Int32).toInt ∧ (g_men : Int32).toInt ≤ 8) (h_g_clauses : 0 ≤ (g_clauses : Int32).toInt ∧ (g_clauses : Int32).toInt ≤ 7) (h_g_winds : 0 ≤ (g_winds : Int32).toInt ∧ (g_winds : Int32).toInt ≤ 4) (h_g_far0 : -999 ≤ (g_far0 : Int32).toInt ∧ (g_far0 : Int32).toInt ≤ 999) (h_g_far1 : -999 ≤ (g_far1 : Int32).toInt ∧ (g_far1 : Int32).toInt ≤ 999) : Met l yX0_findBundles (Cond.code yX0_findBundles cX0_findBundles 3 none :: TB) (rmd 3 0 0) (PM D cA sz [(h0, .inr (0, [.int b_bundlesFound, .int b_firstBundle, .int b_sets, .ref b_qlengths, .ref b_qworths0, .ref b_qworths1, .ref g])), (b_qlengths, .inl (cA 1, 128, .inl b_clengths)), (b_qworths0, .inl (cA 1, 128, .inl b_cworths0)), (b_qworths1, .inl (cA 1, 128, .inl b_cworths1)), (g, .inr (3, [.int g_odds, .int g_pot, .int g_lines, .int g_men, .int g_clauses, .int g_winds, .int g_far0, .int g_far1, .ref g_qsides, .ref g_qgrips, .ref g_qwits, .ref g_qsays, .ref g_qgives0, .ref g_qgives1, .ref g_qfroms, .ref g_qtos])), (g_qsays, .inl (cA 1, 7, .inl g_csays)), (g_qgives0, .inl (cA 1, 7, .inl g_cgives0)), (g_qgives1, .inl (cA 1, 7, .inl g_cgives1))] [.ref h0]) (va_Qv (fun (u : SU) => (-1 ≤ (u.2.1 1).toInt ∧ (u.2.1 1).toInt ≤ 66) ∧ (1 ≤ (u.2.1 2).toInt ∧ (u.2.1 2).toInt ≤ 128)) (fun u t => va_P D vwCl [(h0, .inr (0, [.int (u.2.1 0), .int (u.2.1 1), .int (u.2.1 2), .ref b_qlengths, .ref b_qworths0, .ref b_qworths1, .ref g])), (b_qlengths, .inl (cA 1, 128, .inl (u.2.2.1 0))), (b_qworths0, .inl (cA 1, 128, .inl (u.2.2.1 1))), (b_qworths1, .inl (cA 1, 128, .inl (u.2.2.1 2))), (g, .inr (3, [.int g_odds, .int g_pot, .int g_lines, .int g_men, .int g_clauses, .int g_winds, .int g_far0, .int g_far1, .ref g_qsides, .ref g_qgrips, .ref g_qwits, .ref g_qsays, .ref g_qgives0, .ref g_qgives1, .ref g_qfroms, .ref g_qtos])), (g_qsays, .inl (cA 1, 7, .inl g_csays)), (g_qgives0, .inl (cA 1, 7, .inl g_cgives0)), (g_qgives1, .inl (cA 1, 7, .inl g_cgives1))] t.heap ∧ va_D (va_A [(h0, .inr (0, [.int b_bundlesFound, .int b_firstBundle, .int b_sets, .ref b_qlengths, .ref b_qworths0, .ref b_qworths1, .ref g])), (b_qlengths, .inl (cA 1, 128, .inl b_clengths)), (b_qworths0, .inl (cA 1, 128, .inl b_cworths0)), (b_qworths1, .inl (cA 1, 128, .inl b_cworths1)), (g, .inr (3, [.int g_odds, .int g_pot, .int g_lines, .int g_men, .int g_clauses, .int g_winds, .int g_far0, .int g_far1, .ref g_qsides, .ref g_qgrips, .ref g_qwits, .ref g_qsays, .ref g_qgives0, .ref g_qgives1, .ref g_qfroms, .ref g_qtos])), (g_qsays, .inl (cA 1, 7, .inl g_csays)), (g_qgives0, .inl (cA 1, 7, .inl g_cgives0)), (g_qgives1, .inl (cA 1, 7, .inl g_cgives1))] sz) [(h0, .inr (0, [.int (u.2.1 0), .int (u.2.1 1), .int (u.2.1 2), .ref b_qlengths, .ref b_qworths0, .ref b_qworths1, .ref g])), (b_qlengths, .inl (cA 1, 128, .inl (u.2.2.1 0))), (b_qworths0, .inl (cA 1, 128, .inl (u.2.2.1 1))), (b_qworths1, .inl (cA 1, 128, .inl (u.2.2.1 2))), (g, .inr (3, [.int g_odds, .int g_pot, .int g_lines, .int g_men, .int g_clauses, .int g_winds, .int g_far0, .int g_far1, .ref g_qsides, .ref g_qgrips, .ref g_qwits, .ref g_qsays, .ref g_qgives0, .ref g_qgives1, .ref g_qfroms, .ref g_qtos])), (g_qsays, .inl (cA 1, 7, .inl g_csays)), (g_qgives0, .inl (cA 1, 7, .inl g_cgives0)), (g_qgives1, .inl (cA 1, 7, .inl g_cgives1))]) (va_A [(h0, .inr (0, [.int b_bundlesFound, .int b_firstBundle, .int b_sets, .ref b_qlengths, .ref b_qworths0, .ref b_qworths1, .ref g])), (b_qlengths, .inl (cA 1, 128, .inl b_clengths)), (b_qworths0, .inl (cA 1, 128, .inl b_cworths0)), (b_qworths1, .inl (cA 1, 128, .inl b_cworths1)), (g, .inr (3, [.int g_odds, .int g_pot, .int g_lines, .int g_men, .int g_clauses, .int g_winds, .int g_far0, .int g_far1, .ref g_qsides, .ref g_qgrips, .ref g_qwits, .ref g_qsays, .ref g_qgives0, .ref g_qgives1, .ref g_qfroms, .ref g_qtos])), (g_qsays, .inl (cA 1, 7, .inl g_csays)), (g_qgives0, .inl (cA 1, 7, .inl g_cgives0)), (g_qgives1, .inl (cA 1, 7, .inl g_cgives1))] sz)) 0 0 (va_A [(h0, .inr (0, [.int b_bundlesFound, .int b_firstBundle, .int b_sets, .ref b_qlengths, .ref b_qworths0, .ref b_qworths1, .ref g])), (b_qlengths, .inl (cA 1, 128, .inl b_clengths)), (b_qworths0, .inl (cA 1, 128, .inl b_cworths0)), (b_qworths1, .inl (cA 1, 128, .inl b_cworths1)), (g, .inr (3, [.int g_odds, .int g_pot, .int g_lines, .int g_men, .int g_clauses, .int g_winds, .int g_far0, .int g_far1, .ref g_qsides, .ref g_qgrips, .ref g_qwits, .ref g_qsays, .ref g_qgives0, .ref g_qgives1, .ref g_qfroms, .ref g_qtos])), (g_qsays, .inl (cA 1, 7, .inl g_csays)), (g_qgives0, .inl (cA 1, 7, .inl g_cgives0)), (g_qgives1, .inl (cA 1, 7, .inl g_cgives1))] sz) := by
  refine Met.ofW (cc := cX0_findBundles) (maxL := 3) (ret := none) (by decide) rfl ?_
  intro p e s m args below meth c s₁ B hml hv
  obtain ⟨rfl, hsz, hP, hKN, hD0⟩ := hv
  have hx := B.exec
  have hb := B.bytes
  have hr := B.returns
  have hts : ∀ w ∈ TB, w.before _ s = true := fun w h => atoms_spec B.pre w (List.mem_cons_of_mem _ h)
  have hown : s.vm.findClass RX0 = some m.cls := findClass_of_methodNamed B.named
  have hlocks := B.notSynchronized
  subst hsz
  have hD := hD0.self (sz := s.heap.size)
  generalize hAe : va_A [(h0, .inr (0, [.int b_bundlesFound, .int b_firstBundle, .int b_sets, .ref b_qlengths, .ref b_qworths0, .ref b_qworths1, .ref g])), (b_qlengths, .inl (cA 1, 128, .inl b_clengths)), (b_qworths0, .inl (cA 1, 128, .inl b_cworths0)), (b_qworths1, .inl (cA 1, 128, .inl b_cworths1)), (g, .inr (3, [.int g_odds, .int g_pot, .int g_lines, .int g_men, .int g_clauses, .int g_winds, .int g_far0, .int g_far1, .ref g_qsides, .ref g_qgrips, .ref g_qwits, .ref g_qsays, .ref g_qgives0, .ref g_qgives1, .ref g_qfroms, .ref g_qtos])), (g_qsays, .inl (cA 1, 7, .inl g_csays)), (g_qgives0, .inl (cA 1, 7, .inl g_cgives0)), (g_qgives1, .inl (cA 1, 7, .inl g_cgives1))] s.heap.size = A at hD ⊢
  have hA : ∀ q : Nat, s.heap.size ≤ q → A q := fun q h => by rw [← hAe]; exact Or.inr h
  have hS : va_S A s.heap s.heap [] := va_S.rf
  have hl := lv_entry ([.ref h0]) (n := 3) (Nat.le_of_ble_eq_true rfl)
  rw [lg_entry_eq]
  generalize (lg_sl ([.ref h0]) ++ List.replicate (3 - (lg_sl ([.ref h0])).length) Slot.unset).toArray = ls at hl ⊢
  have hl : lv_has ls 3 [(0, .ref h0)] := hl
  refine lv_aload_n hx hb dX0_findBundles_0 rfl (lv_at hl 0 rfl) ?_
  refine cmVv (rest := []) (wsC := [(h0, .inr (0, [.int b_bundlesFound, .int b_firstBundle, .int b_sets, .ref b_qlengths, .ref b_qworths0, .ref b_qworths1, .ref g])), (b_qlengths, .inl (cA 1, 128, .inl b_clengths)), (b_qworths0, .inl (cA 1, 128, .inl b_cworths0)), (b_qworths1, .inl (cA 1, 128, .inl b_cworths1)), (g, .inr (3, [.int g_odds, .int g_pot, .int g_lines, .int g_men, .int g_clauses, .int g_winds, .int g_far0, .int g_far1, .ref g_qsides, .ref g_qgrips, .ref g_qwits, .ref g_qsays, .ref g_qgives0, .ref g_qgives1, .ref g_qfroms, .ref g_qtos])), (g_qsays, .inl (cA 1, 7, .inl g_csays)), (g_qgives0, .inl (cA 1, 7, .inl g_cgives0)), (g_qgives1, .inl (cA 1, 7, .inl g_cgives1))]) (wr := []) ⟨hx, hb, hml, hown, hts⟩ hKN hP hD hS hA [0, 1, 2, 3, 4, 5, 6, 7] [] rfl rfl (by decide) (by decide) (by decide) (g_X0_weighSets l D cA _ h0 b_bundlesFound b_firstBundle b_sets b_qlengths b_qworths0 b_qworths1 g b_clengths b_cworths0 b_cworths1 g_odds g_pot g_lines g_men g_clauses g_winds g_far0 g_far1 g_qsides g_qgrips g_qwits g_qsays g_qgives0 g_qgives1 g_qfroms g_qtos g_csays g_cgives0 g_cgives1 (by omega) (by omega) (by omega) (by omega) (by omega) (by omega) (by omega)) (tb_V tw_1047 tw_1049 tw_22 tw_112 tw_1050) hdX0_weighSets ⟨rfl, rfl, Nat.le_of_ble_eq_true rfl, Nat.le_of_ble_eq_true rfl⟩ ⟨Nat.le_of_ble_eq_true rfl, Nat.le_of_ble_eq_true rfl⟩ rfl rfl rfl hl.1 rfl (Nat.le_of_ble_eq_true rfl) dX0_findBundles_1 (fun u_1 H locs hr_1 hP hD hS => ?_)
  have hP : va_P D vwCl [(h0, .inr (0, [.int b_bundlesFound, .int b_firstBundle, .int (u_1.2.1 0), .ref b_qlengths, .ref b_qworths0, .ref b_qworths1, .ref g])), (b_qlengths, .inl (cA 1, 128, .inl (u_1.2.2.1 0))), (b_qworths0, .inl (cA 1, 128, .inl (u_1.2.2.1 1))), (b_qworths1, .inl (cA 1, 128, .inl (u_1.2.2.1 2))), (g, .inr (3, [.int g_odds, .int g_pot, .int g_lines, .int g_men, .int g_clauses, .int g_winds, .int g_far0, .int g_far1, .ref g_qsides, .ref g_qgrips, .ref g_qwits, .ref g_qsays, .ref g_qgives0, .ref g_qgives1, .ref g_qfroms, .ref g_qtos])), (g_qsays, .inl (cA 1, 7, .inl g_csays)), (g_qgives0, .inl (cA 1, 7, .inl g_cgives0)), (g_qgives1, .inl (cA 1, 7, .inl g_cgives1))] H := hP
  have hD : va_D A [(h0, .inr (0, [.int b_bundlesFound, .int b_firstBundle, .int (u_1.2.1 0), .ref b_qlengths, .ref b_qworths0, .ref b_qworths1, .ref g])), (b_qlengths, .inl (cA 1, 128, .inl (u_1.2.2.1 0))), (b_qworths0, .inl (cA 1, 128, .inl (u_1.2.2.1 1))), (b_qworths1, .inl (cA 1, 128, .inl (u_1.2.2.1 2))), (g, .inr (3, [.int g_odds, .int g_pot, .int g_lines, .int g_men, .int g_clauses, .int g_winds, .int g_far0, .int g_far1, .ref g_qsides, .ref g_qgrips, .ref g_qwits, .ref g_qsays, .ref g_qgives0, .ref g_qgives1, .ref g_qfroms, .ref g_qtos])), (g_qsays, .inl (cA 1, 7, .inl g_csays)), (g_qgives0, .inl (cA 1, 7, .inl g_cgives0)), (g_qgives1, .inl (cA 1, 7, .inl g_cgives1))] := hD
  have hr_1_0 := hr_1
  refine lv_aload_n hx hb dX0_findBundles_4 rfl (lv_at hl 0 rfl) ?_
  refine lv_iconst (v := 0) hx hb dX0_findBundles_5 (by decide) ?_
  refine va_put (D := D) (ci := 0) (v := .int 0) (ty := .int) (C := RX0) (T := TX0) (N := 7) hx hb hts inX0 tyX0 tyX0_ok nmX0 hown hKN.1 hP hD hS 0 rfl rfl 0 (by decide) (hts _ tw_417) (fun _ h9 => h9) rfl (by decide +kernel) rfl rfl (Nat.le_of_ble_eq_true rfl) dX0_findBundles_6 (fun H locs hP hD hS => ?_)
  have hP : va_P D vwCl [(h0, .inr (0, [.int 0, .int b_firstBundle, .int (u_1.2.1 0), .ref b_qlengths, .ref b_qworths0, .ref b_qworths1, .ref g])), (b_qlengths, .inl (cA 1, 128, .inl (u_1.2.2.1 0))), (b_qworths0, .inl (cA 1, 128, .inl (u_1.2.2.1 1))), (b_qworths1, .inl (cA 1, 128, .inl (u_1.2.2.1 2))), (g, .inr (3, [.int g_odds, .int g_pot, .int g_lines, .int g_men, .int g_clauses, .int g_winds, .int g_far0, .int g_far1, .ref g_qsides, .ref g_qgrips, .ref g_qwits, .ref g_qsays, .ref g_qgives0, .ref g_qgives1, .ref g_qfroms, .ref g_qtos])), (g_qsays, .inl (cA 1, 7, .inl g_csays)), (g_qgives0, .inl (cA 1, 7, .inl g_cgives0)), (g_qgives1, .inl (cA 1, 7, .inl g_cgives1))] H := hP
  have hD : va_D A [(h0, .inr (0, [.int 0, .int b_firstBundle, .int (u_1.2.1 0), .ref b_qlengths, .ref b_qworths0, .ref b_qworths1, .ref g])), (b_qlengths, .inl (cA 1, 128, .inl (u_1.2.2.1 0))), (b_qworths0, .inl (cA 1, 128, .inl (u_1.2.2.1 1))), (b_qworths1, .inl (cA 1, 128, .inl (u_1.2.2.1 2))), (g, .inr (3, [.int g_odds, .int g_pot, .int g_lines, .int g_men, .int g_clauses, .int g_winds, .int g_far0, .int g_far1, .ref g_qsides, .ref g_qgrips, .ref g_qwits, .ref g_qsays, .ref g_qgives0, .ref g_qgives1, .ref g_qfroms, .ref g_qtos])), (g_qsays, .inl (cA 1, 7, .inl g_csays)), (g_qgives0, .inl (cA 1, 7, .inl g_cgives0)), (g_qgives1, .inl (cA 1, 7, .inl g_cgives1))] := hD
  refine lv_aload_n hx hb dX0_findBundles_9 rfl (lv_at hl 0 rfl) ?_
  refine lv_iconst (v := (-1)) hx hb dX0_findBundles_10 (by decide) ?_
  refine va_put (D := D) (ci := 0) (v := .int (-1)) (ty := .int) (C := RX0) (T := TX0) (N := 7) hx hb hts inX0 tyX0 tyX0_ok nmX0 hown hKN.1 hP hD hS 0 rfl rfl 1 (by decide) (hts _ tw_419) (fun _ h9 => h9) rfl (by decide +kernel) rfl rfl (Nat.le_of_ble_eq_true rfl) dX0_findBundles_11 (fun H locs hP hD hS => ?_)
  have hP : va_P D vwCl [(h0, .inr (0, [.int 0, .int (-1), .int (u_1.2.1 0), .ref b_qlengths, .ref b_qworths0, .ref b_qworths1, .ref g])), (b_qlengths, .inl (cA 1, 128, .inl (u_1.2.2.1 0))), (b_qworths0, .inl (cA 1, 128, .inl (u_1.2.2.1 1))), (b_qworths1, .inl (cA 1, 128, .inl (u_1.2.2.1 2))), (g, .inr (3, [.int g_odds, .int g_pot, .int g_lines, .int g_men, .int g_clauses, .int g_winds, .int g_far0, .int g_far1, .ref g_qsides, .ref g_qgrips, .ref g_qwits, .ref g_qsays, .ref g_qgives0, .ref g_qgives1, .ref g_qfroms, .ref g_qtos])), (g_qsays, .inl (cA 1, 7, .inl g_csays)), (g_qgives0, .inl (cA 1, 7, .inl g_cgives0)), (g_qgives1, .inl (cA 1, 7, .inl g_cgives1))] H := hP
  have hD : va_D A [(h0, .inr (0, [.int 0, .int (-1), .int (u_1.2.1 0), .ref b_qlengths, .ref b_qworths0, .ref b_qworths1, .ref g])), (b_qlengths, .inl (cA 1, 128, .inl (u_1.2.2.1 0))), (b_qworths0, .inl (cA 1, 128, .inl (u_1.2.2.1 1))), (b_qworths1, .inl (cA 1, 128, .inl (u_1.2.2.1 2))), (g, .inr (3, [.int g_odds, .int g_pot, .int g_lines, .int g_men, .int g_clauses, .int g_winds, .int g_far0, .int g_far1, .ref g_qsides, .ref g_qgrips, .ref g_qwits, .ref g_qsays, .ref g_qgives0, .ref g_qgives1, .ref g_qfroms, .ref g_qtos])), (g_qsays, .inl (cA 1, 7, .inl g_csays)), (g_qgives0, .inl (cA 1, 7, .inl g_cgives0)), (g_qgives1, .inl (cA 1, 7, .inl g_cgives1))] := hD
  refine lv_iconst (v := 0) hx hb dX0_findBundles_14 (by decide) ?_
  refine lv_istore_n (lv' := [(1, .int 0), (0, .ref h0)]) hx hb dX0_findBundles_15 rfl hl (by decide) rfl (fun ls hl => ?_)
  refine loopW (σ := Int32 × Int32 × Int32) (fun _ => []) (fun ⟨L1_1860, F1_1860, F2_1860⟩ H locs ls => (0 ≤ L1_1860.toInt ∧ L1_1860.toInt ≤ 7) ∧ (-1 ≤ F2_1860.toInt ∧ F2_1860.toInt ≤ 66) ∧ va_P D vwCl [(h0, .inr (0, [.int F1_1860, .int F2_1860, .int (u_1.2.1 0), .ref b_qlengths, .ref b_qworths0, .ref b_qworths1, .ref g])), (b_qlengths, .inl (cA 1, 128, .inl (u_1.2.2.1 0))), (b_qworths0, .inl (cA 1, 128, .inl (u_1.2.2.1 1))), (b_qworths1, .inl (cA 1, 128, .inl (u_1.2.2.1 2))), (g, .inr (3, [.int g_odds, .int g_pot, .int g_lines, .int g_men, .int g_clauses, .int g_winds, .int g_far0, .int g_far1, .ref g_qsides, .ref g_qgrips, .ref g_qwits, .ref g_qsays, .ref g_qgives0, .ref g_qgives1, .ref g_qfroms, .ref g_qtos])), (g_qsays, .inl (cA 1, 7, .inl g_csays)), (g_qgives0, .inl (cA 1, 7, .inl g_cgives0)), (g_qgives1, .inl (cA 1, 7, .inl g_cgives1))] H ∧ va_D A [(h0, .inr (0, [.int F1_1860, .int F2_1860, .int (u_1.2.1 0), .ref b_qlengths, .ref b_qworths0, .ref b_qworths1, .ref g])), (b_qlengths, .inl (cA 1, 128, .inl (u_1.2.2.1 0))), (b_qworths0, .inl (cA 1, 128, .inl (u_1.2.2.1 1))), (b_qworths1, .inl (cA 1, 128, .inl (u_1.2.2.1 2))), (g, .inr (3, [.int g_odds, .int g_pot, .int g_lines, .int g_men, .int g_clauses, .int g_winds, .int g_far0, .int g_far1, .ref g_qsides, .ref g_qgrips, .ref g_qwits, .ref g_qsays, .ref g_qgives0, .ref g_qgives1, .ref g_qfroms, .ref g_qtos])), (g_qsays, .inl (cA 1, 7, .inl g_csays)), (g_qgives0, .inl (cA 1, 7, .inl g_cgives0)), (g_qgives1, .inl (cA 1, 7, .inl g_cgives1))] ∧ va_S A s.heap H locs ∧ lv_has ls 3 [(1, .int L1_1860), (0, .ref h0)]) (fun ⟨L1_1860, F1_1860, F2_1860⟩ => (2147483647 - L1_1860.toInt).toNat) ?_ ((0, 0, (-1)) : Int32 × Int32 × Int32) ⟨(by decide), (by decide), hP, hD, hS, hl⟩
  intro x_1860 H locs ls hI_1860 ih_1860
  obtain ⟨L1_1860, F1_1860, F2_1860⟩ := x_1860
  obtain ⟨k0_1860, k1_1860, hP, hD, hS, hl⟩ := hI_1860
  have hP : va_P D vwCl [(h0, .inr (0, [.int F1_1860, .int F2_1860, .int (u_1.2.1 0), .ref b_qlengths, .ref b_qworths0, .ref b_qworths1, .ref g])), (b_qlengths, .inl (cA 1, 128, .inl (u_1.2.2.1 0))), (b_qworths0, .inl (cA 1, 128, .inl (u_1.2.2.1 1))), (b_qworths1, .inl (cA 1, 128, .inl (u_1.2.2.1 2))), (g, .inr (3, [.int g_odds, .int g_pot, .int g_lines, .int g_men, .int g_clauses, .int g_winds, .int g_far0, .int g_far1, .ref g_qsides, .ref g_qgrips, .ref g_qwits, .ref g_qsays, .ref g_qgives0, .ref g_qgives1, .ref g_qfroms, .ref g_qtos])), (g_qsays, .inl (cA 1, 7, .inl g_csays)), (g_qgives0, .inl (cA 1, 7, .inl g_cgives0)), (g_qgives1, .inl (cA 1, 7, .inl g_cgives1))] H := hP
  have hD : va_D A [(h0, .inr (0, [.int F1_1860, .int F2_1860, .int (u_1.2.1 0), .ref b_qlengths, .ref b_qworths0, .ref b_qworths1, .ref g])), (b_qlengths, .inl (cA 1, 128, .inl (u_1.2.2.1 0))), (b_qworths0, .inl (cA 1, 128, .inl (u_1.2.2.1 1))), (b_qworths1, .inl (cA 1, 128, .inl (u_1.2.2.1 2))), (g, .inr (3, [.int g_odds, .int g_pot, .int g_lines, .int g_men, .int g_clauses, .int g_winds, .int g_far0, .int g_far1, .ref g_qsides, .ref g_qgrips, .ref g_qwits, .ref g_qsays, .ref g_qgives0, .ref g_qgives1, .ref g_qfroms, .ref g_qtos])), (g_qsays, .inl (cA 1, 7, .inl g_csays)), (g_qgives0, .inl (cA 1, 7, .inl g_cgives0)), (g_qgives1, .inl (cA 1, 7, .inl g_cgives1))] := hD
  have hl : lv_has ls 3 [(1, .int L1_1860), (0, .ref h0)] := hl
  refine lv_iload_n hx hb dX0_findBundles_16 rfl (lv_at hl 0 rfl) ?_
  refine lv_aload_n hx hb dX0_findBundles_17 rfl (lv_at hl 1 rfl) ?_
  refine va_get (D := D) (ci := 0) (v := .ref g) (C := RX0) (T := TX0) (N := 7) hx hb hts inX0 hown hKN.1 hP 0 rfl rfl 6 (by decide) (hts _ tw_425) (fun _ h9 => h9) rfl dX0_findBundles_18 ?_
  refine va_get (D := D) (ci := 3) (v := .int g_clauses) (C := RX3) (T := TX3) (N := 16) hx hb hts inX3 hown hKN.1 hP 4 rfl rfl 4 (by decide) (hts _ tw_174) (fun _ h9 => h9) rfl dX0_findBundles_21 ?_
  refine lv_icmp_ge (tgt := 123) hx hb dX0_findBundles_24 (by decide) (fun c_1861 => ?_) (fun c_1861 => ?_)
  · skip
    have k_1862 := kk_le rfl rfl c_1861
    have hP9 := hP.sub (ws' := [(h0, .inr (0, [.int F1_1860, .int F2_1860, .int (u_1.2.1 0), .ref b_qlengths, .ref b_qworths0, .ref b_qworths1, .ref g])), (b_qlengths, .inl (cA 1, 128, .inl (u_1.2.2.1 0))), (b_qworths0, .inl (cA 1, 128, .inl (u_1.2.2.1 1))), (b_qworths1, .inl (cA 1, 128, .inl (u_1.2.2.1 2))), (g, .inr (3, [.int g_odds, .int g_pot, .int g_lines, .int g_men, .int g_clauses, .int g_winds, .int g_far0, .int g_far1, .ref g_qsides, .ref g_qgrips, .ref g_qwits, .ref g_qsays, .ref g_qgives0, .ref g_qgives1, .ref g_qfroms, .ref g_qtos])), (g_qsays, .inl (cA 1, 7, .inl g_csays)), (g_qgives0, .inl (cA 1, 7, .inl g_cgives0)), (g_qgives1, .inl (cA 1, 7, .inl g_cgives1))]) [0, 1, 2, 3, 4, 5, 6, 7] rfl
    have hD9 := hD.sub (ws' := [(h0, .inr (0, [.int F1_1860, .int F2_1860, .int (u_1.2.1 0), .ref b_qlengths, .ref b_qworths0, .ref b_qworths1, .ref g])), (b_qlengths, .inl (cA 1, 128, .inl (u_1.2.2.1 0))), (b_qworths0, .inl (cA 1, 128, .inl (u_1.2.2.1 1))), (b_qworths1, .inl (cA 1, 128, .inl (u_1.2.2.1 2))), (g, .inr (3, [.int g_odds, .int g_pot, .int g_lines, .int g_men, .int g_clauses, .int g_winds, .int g_far0, .int g_far1, .ref g_qsides, .ref g_qgrips, .ref g_qwits, .ref g_qsays, .ref g_qgives0, .ref g_qgives1, .ref g_qfroms, .ref g_qtos])), (g_qsays, .inl (cA 1, 7, .inl g_csays)), (g_qgives0, .inl (cA 1, 7, .inl g_cgives0)), (g_qgives1, .inl (cA 1, 7, .inl g_cgives1))]) [0, 1, 2, 3, 4, 5, 6, 7] (by decide) rfl
    exact W.vret hx hb hr (fun t ht hW => ⟨⟨((fun _ => 0), (selI [F1_1860, F2_1860, (u_1.2.1 0)]), (selF [(u_1.2.2.1 0), (u_1.2.2.1 1), (u_1.2.2.1 2)]), (fun _ _ => 0)), rfl, ⟨(show -1 ≤ F2_1860.toInt ∧ F2_1860.toInt ≤ 66 from by omega), (show 1 ≤ (u_1.2.1 0).toInt ∧ (u_1.2.1 0).toInt ≤ 128 from by omega)⟩, by rw [ht]; exact hP9, hD9⟩, hS.F ht⟩) hS.2.2 dX0_findBundles_123
  · skip
    have k_1863 := kk_nle rfl rfl c_1861
    refine lv_iload_n hx hb dX0_findBundles_27 rfl (lv_at hl 0 rfl) ?_
    refine lv_iconst (v := 1) hx hb dX0_findBundles_28 (by decide) ?_
    refine lv_iadd hx hb dX0_findBundles_29 ?_
    refine lv_topi (fun x_1864 ex_1864 => ?_)
    have k_1865 := ar_add rfl zi_1 ex_1864 (by omega) (by omega)
    refine lv_istore_n (lv' := [(2, .int x_1864), (1, .int L1_1860), (0, .ref h0)]) hx hb dX0_findBundles_30 rfl hl (by decide) rfl (fun ls hl => ?_)
    have b_1953 := i32_bd F1_1860
    refine loopW (σ := Int32 × Int32 × Int32) (fun _ => []) (fun ⟨L2_1952, F1_1952, F2_1952⟩ H locs ls => (1 ≤ L2_1952.toInt ∧ L2_1952.toInt ≤ 7) ∧ (-1 ≤ F2_1952.toInt ∧ F2_1952.toInt ≤ 66) ∧ va_P D vwCl [(h0, .inr (0, [.int F1_1952, .int F2_1952, .int (u_1.2.1 0), .ref b_qlengths, .ref b_qworths0, .ref b_qworths1, .ref g])), (b_qlengths, .inl (cA 1, 128, .inl (u_1.2.2.1 0))), (b_qworths0, .inl (cA 1, 128, .inl (u_1.2.2.1 1))), (b_qworths1, .inl (cA 1, 128, .inl (u_1.2.2.1 2))), (g, .inr (3, [.int g_odds, .int g_pot, .int g_lines, .int g_men, .int g_clauses, .int g_winds, .int g_far0, .int g_far1, .ref g_qsides, .ref g_qgrips, .ref g_qwits, .ref g_qsays, .ref g_qgives0, .ref g_qgives1, .ref g_qfroms, .ref g_qtos])), (g_qsays, .inl (cA 1, 7, .inl g_csays)), (g_qgives0, .inl (cA 1, 7, .inl g_cgives0)), (g_qgives1, .inl (cA 1, 7, .inl g_cgives1))] H ∧ va_D A [(h0, .inr (0, [.int F1_1952, .int F2_1952, .int (u_1.2.1 0), .ref b_qlengths, .ref b_qworths0, .ref b_qworths1, .ref g])), (b_qlengths, .inl (cA 1, 128, .inl (u_1.2.2.1 0))), (b_qworths0, .inl (cA 1, 128, .inl (u_1.2.2.1 1))), (b_qworths1, .inl (cA 1, 128, .inl (u_1.2.2.1 2))), (g, .inr (3, [.int g_odds, .int g_pot, .int g_lines, .int g_men, .int g_clauses, .int g_winds, .int g_far0, .int g_far1, .ref g_qsides, .ref g_qgrips, .ref g_qwits, .ref g_qsays, .ref g_qgives0, .ref g_qgives1, .ref g_qfroms, .ref g_qtos])), (g_qsays, .inl (cA 1, 7, .inl g_csays)), (g_qgives0, .inl (cA 1, 7, .inl g_cgives0)), (g_qgives1, .inl (cA 1, 7, .inl g_cgives1))] ∧ va_S A s.heap H locs ∧ lv_has ls 3 [(2, .int L2_1952), (1, .int L1_1860), (0, .ref h0)]) (fun ⟨L2_1952, F1_1952, F2_1952⟩ => (2147483647 - L2_1952.toInt).toNat) ?_ ((x_1864, F1_1860, F2_1860) : Int32 × Int32 × Int32) ⟨(show 1 ≤ x_1864.toInt ∧ x_1864.toInt ≤ 7 from by omega), (show -1 ≤ F2_1860.toInt ∧ F2_1860.toInt ≤ 66 from by omega), hP, hD, hS, hl⟩
    intro x_1952 H locs ls hI_1952 ih_1952
    obtain ⟨L2_1952, F1_1952, F2_1952⟩ := x_1952
    obtain ⟨k0_1952, k1_1952, hP, hD, hS, hl⟩ := hI_1952
    have hP : va_P D vwCl [(h0, .inr (0, [.int F1_1952, .int F2_1952, .int (u_1.2.1 0), .ref b_qlengths, .ref b_qworths0, .ref b_qworths1, .ref g])), (b_qlengths, .inl (cA 1, 128, .inl (u_1.2.2.1 0))), (b_qworths0, .inl (cA 1, 128, .inl (u_1.2.2.1 1))), (b_qworths1, .inl (cA 1, 128, .inl (u_1.2.2.1 2))), (g, .inr (3, [.int g_odds, .int g_pot, .int g_lines, .int g_men, .int g_clauses, .int g_winds, .int g_far0, .int g_far1, .ref g_qsides, .ref g_qgrips, .ref g_qwits, .ref g_qsays, .ref g_qgives0, .ref g_qgives1, .ref g_qfroms, .ref g_qtos])), (g_qsays, .inl (cA 1, 7, .inl g_csays)), (g_qgives0, .inl (cA 1, 7, .inl g_cgives0)), (g_qgives1, .inl (cA 1, 7, .inl g_cgives1))] H := hP
    have hD : va_D A [(h0, .inr (0, [.int F1_1952, .int F2_1952, .int (u_1.2.1 0), .ref b_qlengths, .ref b_qworths0, .ref b_qworths1, .ref g])), (b_qlengths, .inl (cA 1, 128, .inl (u_1.2.2.1 0))), (b_qworths0, .inl (cA 1, 128, .inl (u_1.2.2.1 1))), (b_qworths1, .inl (cA 1, 128, .inl (u_1.2.2.1 2))), (g, .inr (3, [.int g_odds, .int g_pot, .int g_lines, .int g_men, .int g_clauses, .int g_winds, .int g_far0, .int g_far1, .ref g_qsides, .ref g_qgrips, .ref g_qwits, .ref g_qsays, .ref g_qgives0, .ref g_qgives1, .ref g_qfroms, .ref g_qtos])), (g_qsays, .inl (cA 1, 7, .inl g_csays)), (g_qgives0, .inl (cA 1, 7, .inl g_cgives0)), (g_qgives1, .inl (cA 1, 7, .inl g_cgives1))] := hD
    have hl : lv_has ls 3 [(2, .int L2_1952), (1, .int L1_1860), (0, .ref h0)] := hl
    refine lv_iload_n hx hb dX0_findBundles_31 rfl (lv_at hl 0 rfl) ?_
    refine lv_aload_n hx hb dX0_findBundles_32 rfl (lv_at hl 2 rfl) ?_
    refine va_get (D := D) (ci := 0) (v := .ref g) (C := RX0) (T := TX0) (N := 7) hx hb hts inX0 hown hKN.1 hP 0 rfl rfl 6 (by decide) (hts _ tw_425) (fun _ h9 => h9) rfl dX0_findBundles_33 ?_
    refine va_get (D := D) (ci := 3) (v := .int g_clauses) (C := RX3) (T := TX3) (N := 16) hx hb hts inX3 hown hKN.1 hP 4 rfl rfl 4 (by decide) (hts _ tw_174) (fun _ h9 => h9) rfl dX0_findBundles_36 ?_
    refine lv_icmp_ge (tgt := 117) hx hb dX0_findBundles_39 (by decide) (fun c_1954 => ?_) (fun c_1954 => ?_)
    · skip
      have k_1955 := kk_le rfl rfl c_1954
      obtain ⟨x_1956, ex_1956⟩ : ∃ y : Int32, L1_1860 + Int32.ofInt 1 = y := ⟨_, rfl⟩
      have k_1957 := ar_add (b := 1) rfl zi_1 ex_1956.symm (by omega) (by omega)
      refine lv_iinc (v := x_1956) (lv' := [(1, .int x_1956), (2, .int L2_1952), (0, .ref h0)]) hx hb dX0_findBundles_117 hl (k := 1) rfl ex_1956 (by decide) rfl (fun ls hl => ?_)
      refine lv_goto (tgt := 16) hx hb dX0_findBundles_120 (by decide) ?_
      exact ih_1860 (x_1956, F1_1952, F2_1952) _ _ _ ⟨(show 0 ≤ x_1956.toInt ∧ x_1956.toInt ≤ 7 from by omega), (show -1 ≤ F2_1952.toInt ∧ F2_1952.toInt ≤ 66 from by omega), hP.sub [0, 1, 2, 3, 4, 5, 6, 7] rfl, hD.sub [0, 1, 2, 3, 4, 5, 6, 7] (by decide) rfl, hS, lv_sub hl [0, 2] rfl⟩ (by show (2147483647 - x_1956.toInt).toNat < (2147483647 - L1_1860.toInt).toNat; omega)
    · skip
      have k_1958 := kk_nle rfl rfl c_1954
      refine lv_aload_n hx hb dX0_findBundles_42 rfl (lv_at hl 2 rfl) ?_
      refine lv_iconst (v := 1) hx hb dX0_findBundles_43 (by decide) ?_
      refine lv_iload_n hx hb dX0_findBundles_44 rfl (lv_at hl 1 rfl) ?_
      refine lv_ishl hx hb dX0_findBundles_45 ?_
      refine lv_topi (fun x_1959 ex_1959 => ?_)
      have k_1960 := ar_shl1 ex_1959 (by omega) (by omega)
      refine lv_iconst (v := 1) hx hb dX0_findBundles_46 (by decide) ?_
      refine lv_iload_n hx hb dX0_findBundles_47 rfl (lv_at hl 0 rfl) ?_
      refine lv_ishl hx hb dX0_findBundles_48 ?_
      refine lv_topi (fun x_1961 ex_1961 => ?_)
      have k_1962 := ar_shl1 ex_1961 (by omega) (by omega)
      refine lv_ior hx hb dX0_findBundles_49 ?_
      refine lv_topi (fun x_1963 ex_1963 => ?_)
      have k_1964 := ar_or (n := 7) (M := 128) rfl rfl ex_1963 (by decide) (by decide) (by omega) (by omega)
      refine cpVi (rest := []) ⟨hx, hb, hml, hown, hts⟩ hKN (hP.sub (ws' := [(h0, .inr (0, [.int F1_1952, .int F2_1952, .int (u_1.2.1 0), .ref b_qlengths, .ref b_qworths0, .ref b_qworths1, .ref g])), (b_qworths0, .inl (cA 1, 128, .inl (u_1.2.2.1 1))), (b_qworths1, .inl (cA 1, 128, .inl (u_1.2.2.1 2)))]) [0, 2, 3] rfl) (g_X0_isSigned l D cA h0 F1_1952 F2_1952 (u_1.2.1 0) b_qlengths b_qworths0 b_qworths1 g (u_1.2.2.1 1) (u_1.2.2.1 2) x_1963) (tb_V tw_1102 tw_1104 tw_23 tw_112 tw_1105) hdX0_isSigned ⟨rfl, rfl, Nat.le_of_ble_eq_true rfl, Nat.le_of_ble_eq_true rfl⟩ ⟨Nat.le_of_ble_eq_true rfl, Nat.le_of_ble_eq_true rfl⟩ rfl rfl rfl hl.1 rfl (Nat.le_of_ble_eq_true rfl) dX0_findBundles_50 (fun r_1965 hr_1965 => ?_)
      refine lv_if_eq (tgt := 111) hx hb dX0_findBundles_53 (by decide) (fun c_1966 => ?_) (fun c_1966 => ?_)
      · skip
        have k_1967 := kk_eq rfl zi_0 c_1966
        obtain ⟨x_1968, ex_1968⟩ : ∃ y : Int32, L2_1952 + Int32.ofInt 1 = y := ⟨_, rfl⟩
        have k_1969 := ar_add (b := 1) rfl zi_1 ex_1968.symm (by omega) (by omega)
        refine lv_iinc (v := x_1968) (lv' := [(2, .int x_1968), (1, .int L1_1860), (0, .ref h0)]) hx hb dX0_findBundles_111 hl (k := 0) rfl ex_1968 (by decide) rfl (fun ls hl => ?_)
        refine lv_goto (tgt := 31) hx hb dX0_findBundles_114 (by decide) ?_
        exact ih_1952 (x_1968, F1_1952, F2_1952) _ _ _ ⟨(show 1 ≤ x_1968.toInt ∧ x_1968.toInt ≤ 7 from by omega), (show -1 ≤ F2_1952.toInt ∧ F2_1952.toInt ≤ 66 from by omega), hP.sub [0, 1, 2, 3, 4, 5, 6, 7] rfl, hD.sub [0, 1, 2, 3, 4, 5, 6, 7] (by decide) rfl, hS, lv_sub hl [0, 1, 2] rfl⟩ (by show (2147483647 - x_1968.toInt).toNat < (2147483647 - L2_1952.toInt).toNat; omega)
      · skip
        have k_1970 := kk_ne rfl zi_0 c_1966
        refine lv_aload_n hx hb dX0_findBundles_56 rfl (lv_at hl 2 rfl) ?_
        refine lv_iconst (v := 1) hx hb dX0_findBundles_57 (by decide) ?_
        refine lv_iload_n hx hb dX0_findBundles_58 rfl (lv_at hl 1 rfl) ?_
        refine lv_ishl hx hb dX0_findBundles_59 ?_
        refine lv_topi (fun x_1971 ex_1971 => ?_)
        obtain rfl : x_1959 = x_1971 := ex_1959.trans ex_1971.symm
        refine cpVi (rest := []) ⟨hx, hb, hml, hown, hts⟩ hKN (hP.sub (ws' := [(h0, .inr (0, [.int F1_1952, .int F2_1952, .int (u_1.2.1 0), .ref b_qlengths, .ref b_qworths0, .ref b_qworths1, .ref g])), (b_qworths0, .inl (cA 1, 128, .inl (u_1.2.2.1 1))), (b_qworths1, .inl (cA 1, 128, .inl (u_1.2.2.1 2)))]) [0, 2, 3] rfl) (g_X0_isSigned l D cA h0 F1_1952 F2_1952 (u_1.2.1 0) b_qlengths b_qworths0 b_qworths1 g (u_1.2.2.1 1) (u_1.2.2.1 2) x_1959) (tb_V tw_1102 tw_1104 tw_23 tw_112 tw_1105) hdX0_isSigned ⟨rfl, rfl, Nat.le_of_ble_eq_true rfl, Nat.le_of_ble_eq_true rfl⟩ ⟨Nat.le_of_ble_eq_true rfl, Nat.le_of_ble_eq_true rfl⟩ rfl rfl rfl hl.1 rfl (Nat.le_of_ble_eq_true rfl) dX0_findBundles_60 (fun r_1972 hr_1972 => ?_)
        refine lv_if_ne (tgt := 111) hx hb dX0_findBundles_63 (by decide) (fun c_1973 => ?_) (fun c_1973 => ?_)
        · skip
          have k_1974 := kk_ne rfl zi_0 c_1973
          obtain ⟨x_1975, ex_1975⟩ : ∃ y : Int32, L2_1952 + Int32.ofInt 1 = y := ⟨_, rfl⟩
          have k_1976 := ar_add (b := 1) rfl zi_1 ex_1975.symm (by omega) (by omega)
          refine lv_iinc (v := x_1975) (lv' := [(2, .int x_1975), (1, .int L1_1860), (0, .ref h0)]) hx hb dX0_findBundles_111 hl (k := 0) rfl ex_1975 (by decide) rfl (fun ls hl => ?_)
          refine lv_goto (tgt := 31) hx hb dX0_findBundles_114 (by decide) ?_
          exact ih_1952 (x_1975, F1_1952, F2_1952) _ _ _ ⟨(show 1 ≤ x_1975.toInt ∧ x_1975.toInt ≤ 7 from by omega), (show -1 ≤ F2_1952.toInt ∧ F2_1952.toInt ≤ 66 from by omega), hP.sub [0, 1, 2, 3, 4, 5, 6, 7] rfl, hD.sub [0, 1, 2, 3, 4, 5, 6, 7] (by decide) rfl, hS, lv_sub hl [0, 1, 2] rfl⟩ (by show (2147483647 - x_1975.toInt).toNat < (2147483647 - L2_1952.toInt).toNat; omega)
        · skip
          have k_1977 := kk_eq rfl zi_0 c_1973
          refine lv_aload_n hx hb dX0_findBundles_66 rfl (lv_at hl 2 rfl) ?_
          refine lv_iconst (v := 1) hx hb dX0_findBundles_67 (by decide) ?_
          refine lv_iload_n hx hb dX0_findBundles_68 rfl (lv_at hl 0 rfl) ?_
          refine lv_ishl hx hb dX0_findBundles_69 ?_
          refine lv_topi (fun x_1978 ex_1978 => ?_)
          obtain rfl : x_1961 = x_1978 := ex_1961.trans ex_1978.symm
          refine cpVi (rest := []) ⟨hx, hb, hml, hown, hts⟩ hKN (hP.sub (ws' := [(h0, .inr (0, [.int F1_1952, .int F2_1952, .int (u_1.2.1 0), .ref b_qlengths, .ref b_qworths0, .ref b_qworths1, .ref g])), (b_qworths0, .inl (cA 1, 128, .inl (u_1.2.2.1 1))), (b_qworths1, .inl (cA 1, 128, .inl (u_1.2.2.1 2)))]) [0, 2, 3] rfl) (g_X0_isSigned l D cA h0 F1_1952 F2_1952 (u_1.2.1 0) b_qlengths b_qworths0 b_qworths1 g (u_1.2.2.1 1) (u_1.2.2.1 2) x_1961) (tb_V tw_1102 tw_1104 tw_23 tw_112 tw_1105) hdX0_isSigned ⟨rfl, rfl, Nat.le_of_ble_eq_true rfl, Nat.le_of_ble_eq_true rfl⟩ ⟨Nat.le_of_ble_eq_true rfl, Nat.le_of_ble_eq_true rfl⟩ rfl rfl rfl hl.1 rfl (Nat.le_of_ble_eq_true rfl) dX0_findBundles_70 (fun r_1979 hr_1979 => ?_)
          refine lv_if_ne (tgt := 111) hx hb dX0_findBundles_73 (by decide) (fun c_1980 => ?_) (fun c_1980 => ?_)
          · skip
            have k_1981 := kk_ne rfl zi_0 c_1980
            obtain ⟨x_1982, ex_1982⟩ : ∃ y : Int32, L2_1952 + Int32.ofInt 1 = y := ⟨_, rfl⟩
            have k_1983 := ar_add (b := 1) rfl zi_1 ex_1982.symm (by omega) (by omega)
            refine lv_iinc (v := x_1982) (lv' := [(2, .int x_1982), (1, .int L1_1860), (0, .ref h0)]) hx hb dX0_findBundles_111 hl (k := 0) rfl ex_1982 (by decide) rfl (fun ls hl => ?_)
            refine lv_goto (tgt := 31) hx hb dX0_findBundles_114 (by decide) ?_
            exact ih_1952 (x_1982, F1_1952, F2_1952) _ _ _ ⟨(show 1 ≤ x_1982.toInt ∧ x_1982.toInt ≤ 7 from by omega), (show -1 ≤ F2_1952.toInt ∧ F2_1952.toInt ≤ 66 from by omega), hP.sub [0, 1, 2, 3, 4, 5, 6, 7] rfl, hD.sub [0, 1, 2, 3, 4, 5, 6, 7] (by decide) rfl, hS, lv_sub hl [0, 1, 2] rfl⟩ (by show (2147483647 - x_1982.toInt).toNat < (2147483647 - L2_1952.toInt).toNat; omega)
          · skip
            have k_1984 := kk_eq rfl zi_0 c_1980
            refine lv_aload_n hx hb dX0_findBundles_76 rfl (lv_at hl 2 rfl) ?_
            refine lv_dup hx hb dX0_findBundles_77 rfl ?_
            refine va_get (D := D) (ci := 0) (v := .int F1_1952) (C := RX0) (T := TX0) (N := 7) hx hb hts inX0 hown hKN.1 hP 0 rfl rfl 0 (by decide) (hts _ tw_417) (fun _ h9 => h9) rfl dX0_findBundles_78 ?_
            refine lv_iconst (v := 1) hx hb dX0_findBundles_81 (by decide) ?_
            refine lv_iadd hx hb dX0_findBundles_82 ?_
            refine lv_topi (fun x_1985 ex_1985 => ?_)
            refine va_put (D := D) (ci := 0) (v := .int x_1985) (ty := .int) (C := RX0) (T := TX0) (N := 7) hx hb hts inX0 tyX0 tyX0_ok nmX0 hown hKN.1 hP hD hS 0 rfl rfl 0 (by decide) (hts _ tw_417) (fun _ h9 => h9) rfl (by decide +kernel) rfl rfl (Nat.le_of_ble_eq_true rfl) dX0_findBundles_83 (fun H locs hP hD hS => ?_)
            have hP : va_P D vwCl [(h0, .inr (0, [.int x_1985, .int F2_1952, .int (u_1.2.1 0), .ref b_qlengths, .ref b_qworths0, .ref b_qworths1, .ref g])), (b_qlengths, .inl (cA 1, 128, .inl (u_1.2.2.1 0))), (b_qworths0, .inl (cA 1, 128, .inl (u_1.2.2.1 1))), (b_qworths1, .inl (cA 1, 128, .inl (u_1.2.2.1 2))), (g, .inr (3, [.int g_odds, .int g_pot, .int g_lines, .int g_men, .int g_clauses, .int g_winds, .int g_far0, .int g_far1, .ref g_qsides, .ref g_qgrips, .ref g_qwits, .ref g_qsays, .ref g_qgives0, .ref g_qgives1, .ref g_qfroms, .ref g_qtos])), (g_qsays, .inl (cA 1, 7, .inl g_csays)), (g_qgives0, .inl (cA 1, 7, .inl g_cgives0)), (g_qgives1, .inl (cA 1, 7, .inl g_cgives1))] H := hP
            have hD : va_D A [(h0, .inr (0, [.int x_1985, .int F2_1952, .int (u_1.2.1 0), .ref b_qlengths, .ref b_qworths0, .ref b_qworths1, .ref g])), (b_qlengths, .inl (cA 1, 128, .inl (u_1.2.2.1 0))), (b_qworths0, .inl (cA 1, 128, .inl (u_1.2.2.1 1))), (b_qworths1, .inl (cA 1, 128, .inl (u_1.2.2.1 2))), (g, .inr (3, [.int g_odds, .int g_pot, .int g_lines, .int g_men, .int g_clauses, .int g_winds, .int g_far0, .int g_far1, .ref g_qsides, .ref g_qgrips, .ref g_qwits, .ref g_qsays, .ref g_qgives0, .ref g_qgives1, .ref g_qfroms, .ref g_qtos])), (g_qsays, .inl (cA 1, 7, .inl g_csays)), (g_qgives0, .inl (cA 1, 7, .inl g_cgives0)), (g_qgives1, .inl (cA 1, 7, .inl g_cgives1))] := hD
            refine lv_aload_n hx hb dX0_findBundles_86 rfl (lv_at hl 2 rfl) ?_
            refine lv_aload_n hx hb dX0_findBundles_87 rfl (lv_at hl 2 rfl) ?_
            refine va_get (D := D) (ci := 0) (v := .int F2_1952) (C := RX0) (T := TX0) (N := 7) hx hb hts inX0 hown hKN.1 hP 0 rfl rfl 1 (by decide) (hts _ tw_419) (fun _ h9 => h9) rfl dX0_findBundles_88 ?_
            refine lv_iconst (v := (-1)) hx hb dX0_findBundles_91 (by decide) ?_
            refine lv_icmp_ne (tgt := 104) hx hb dX0_findBundles_92 (by decide) (fun c_1987 => ?_) (fun c_1987 => ?_)
            · skip
              have k_1988 := kk_ne rfl zi_m1 c_1987
              refine lv_aload_n hx hb dX0_findBundles_104 rfl (lv_at hl 2 rfl) ?_
              refine va_get (D := D) (ci := 0) (v := .int F2_1952) (C := RX0) (T := TX0) (N := 7) hx hb hts inX0 hown hKN.1 hP 0 rfl rfl 1 (by decide) (hts _ tw_419) (fun _ h9 => h9) rfl dX0_findBundles_105 ?_
              refine va_put (D := D) (ci := 0) (v := .int F2_1952) (ty := .int) (C := RX0) (T := TX0) (N := 7) hx hb hts inX0 tyX0 tyX0_ok nmX0 hown hKN.1 hP hD hS 0 rfl rfl 1 (by decide) (hts _ tw_419) (fun _ h9 => h9) rfl (by decide +kernel) rfl rfl (Nat.le_of_ble_eq_true rfl) dX0_findBundles_108 (fun H locs hP hD hS => ?_)
              have hP : va_P D vwCl [(h0, .inr (0, [.int x_1985, .int F2_1952, .int (u_1.2.1 0), .ref b_qlengths, .ref b_qworths0, .ref b_qworths1, .ref g])), (b_qlengths, .inl (cA 1, 128, .inl (u_1.2.2.1 0))), (b_qworths0, .inl (cA 1, 128, .inl (u_1.2.2.1 1))), (b_qworths1, .inl (cA 1, 128, .inl (u_1.2.2.1 2))), (g, .inr (3, [.int g_odds, .int g_pot, .int g_lines, .int g_men, .int g_clauses, .int g_winds, .int g_far0, .int g_far1, .ref g_qsides, .ref g_qgrips, .ref g_qwits, .ref g_qsays, .ref g_qgives0, .ref g_qgives1, .ref g_qfroms, .ref g_qtos])), (g_qsays, .inl (cA 1, 7, .inl g_csays)), (g_qgives0, .inl (cA 1, 7, .inl g_cgives0)), (g_qgives1, .inl (cA 1, 7, .inl g_cgives1))] H := hP
              have hD : va_D A [(h0, .inr (0, [.int x_1985, .int F2_1952, .int (u_1.2.1 0), .ref b_qlengths, .ref b_qworths0, .ref b_qworths1, .ref g])), (b_qlengths, .inl (cA 1, 128, .inl (u_1.2.2.1 0))), (b_qworths0, .inl (cA 1, 128, .inl (u_1.2.2.1 1))), (b_qworths1, .inl (cA 1, 128, .inl (u_1.2.2.1 2))), (g, .inr (3, [.int g_odds, .int g_pot, .int g_lines, .int g_men, .int g_clauses, .int g_winds, .int g_far0, .int g_far1, .ref g_qsides, .ref g_qgrips, .ref g_qwits, .ref g_qsays, .ref g_qgives0, .ref g_qgives1, .ref g_qfroms, .ref g_qtos])), (g_qsays, .inl (cA 1, 7, .inl g_csays)), (g_qgives0, .inl (cA 1, 7, .inl g_cgives0)), (g_qgives1, .inl (cA 1, 7, .inl g_cgives1))] := hD
              obtain ⟨x_1989, ex_1989⟩ : ∃ y : Int32, L2_1952 + Int32.ofInt 1 = y := ⟨_, rfl⟩
              have k_1990 := ar_add (b := 1) rfl zi_1 ex_1989.symm (by omega) (by omega)
              refine lv_iinc (v := x_1989) (lv' := [(2, .int x_1989), (1, .int L1_1860), (0, .ref h0)]) hx hb dX0_findBundles_111 hl (k := 0) rfl ex_1989 (by decide) rfl (fun ls hl => ?_)
              refine lv_goto (tgt := 31) hx hb dX0_findBundles_114 (by decide) ?_
              exact ih_1952 (x_1989, x_1985, F2_1952) _ _ _ ⟨(show 1 ≤ x_1989.toInt ∧ x_1989.toInt ≤ 7 from by omega), (show -1 ≤ F2_1952.toInt ∧ F2_1952.toInt ≤ 66 from by omega), hP.sub [0, 1, 2, 3, 4, 5, 6, 7] rfl, hD.sub [0, 1, 2, 3, 4, 5, 6, 7] (by decide) rfl, hS, lv_sub hl [0, 1, 2] rfl⟩ (by show (2147483647 - x_1989.toInt).toNat < (2147483647 - L2_1952.toInt).toNat; omega)
            · skip
              have k_1991 := kk_eq rfl zi_m1 c_1987
              refine lv_bipush (v := 10) hx hb dX0_findBundles_95 (by decide) ?_
              refine lv_iload_n hx hb dX0_findBundles_97 rfl (lv_at hl 1 rfl) ?_
              refine lv_imul hx hb dX0_findBundles_98 ?_
              refine lv_topi (fun x_1992 ex_1992 => ?_)
              have k_1993 := ar_mul zi_10 rfl ex_1992 (by omega) (by omega)
              refine lv_iload_n hx hb dX0_findBundles_99 rfl (lv_at hl 0 rfl) ?_
              refine lv_iadd hx hb dX0_findBundles_100 ?_
              refine lv_topi (fun x_1994 ex_1994 => ?_)
              have k_1995 := ar_add rfl rfl ex_1994 (by omega) (by omega)
              refine lv_goto (tgt := 108) hx hb dX0_findBundles_101 (by decide) ?_
              refine va_put (D := D) (ci := 0) (v := .int x_1994) (ty := .int) (C := RX0) (T := TX0) (N := 7) hx hb hts inX0 tyX0 tyX0_ok nmX0 hown hKN.1 hP hD hS 0 rfl rfl 1 (by decide) (hts _ tw_419) (fun _ h9 => h9) rfl (by decide +kernel) rfl rfl (Nat.le_of_ble_eq_true rfl) dX0_findBundles_108 (fun H locs hP hD hS => ?_)
              have hP : va_P D vwCl [(h0, .inr (0, [.int x_1985, .int x_1994, .int (u_1.2.1 0), .ref b_qlengths, .ref b_qworths0, .ref b_qworths1, .ref g])), (b_qlengths, .inl (cA 1, 128, .inl (u_1.2.2.1 0))), (b_qworths0, .inl (cA 1, 128, .inl (u_1.2.2.1 1))), (b_qworths1, .inl (cA 1, 128, .inl (u_1.2.2.1 2))), (g, .inr (3, [.int g_odds, .int g_pot, .int g_lines, .int g_men, .int g_clauses, .int g_winds, .int g_far0, .int g_far1, .ref g_qsides, .ref g_qgrips, .ref g_qwits, .ref g_qsays, .ref g_qgives0, .ref g_qgives1, .ref g_qfroms, .ref g_qtos])), (g_qsays, .inl (cA 1, 7, .inl g_csays)), (g_qgives0, .inl (cA 1, 7, .inl g_cgives0)), (g_qgives1, .inl (cA 1, 7, .inl g_cgives1))] H := hP
              have hD : va_D A [(h0, .inr (0, [.int x_1985, .int x_1994, .int (u_1.2.1 0), .ref b_qlengths, .ref b_qworths0, .ref b_qworths1, .ref g])), (b_qlengths, .inl (cA 1, 128, .inl (u_1.2.2.1 0))), (b_qworths0, .inl (cA 1, 128, .inl (u_1.2.2.1 1))), (b_qworths1, .inl (cA 1, 128, .inl (u_1.2.2.1 2))), (g, .inr (3, [.int g_odds, .int g_pot, .int g_lines, .int g_men, .int g_clauses, .int g_winds, .int g_far0, .int g_far1, .ref g_qsides, .ref g_qgrips, .ref g_qwits, .ref g_qsays, .ref g_qgives0, .ref g_qgives1, .ref g_qfroms, .ref g_qtos])), (g_qsays, .inl (cA 1, 7, .inl g_csays)), (g_qgives0, .inl (cA 1, 7, .inl g_cgives0)), (g_qgives1, .inl (cA 1, 7, .inl g_cgives1))] := hD
              obtain ⟨x_1996, ex_1996⟩ : ∃ y : Int32, L2_1952 + Int32.ofInt 1 = y := ⟨_, rfl⟩
              have k_1997 := ar_add (b := 1) rfl zi_1 ex_1996.symm (by omega) (by omega)
              refine lv_iinc (v := x_1996) (lv' := [(2, .int x_1996), (1, .int L1_1860), (0, .ref h0)]) hx hb dX0_findBundles_111 hl (k := 0) rfl ex_1996 (by decide) rfl (fun ls hl => ?_)
              refine lv_goto (tgt := 31) hx hb dX0_findBundles_114 (by decide) ?_
              exact ih_1952 (x_1996, x_1985, x_1994) _ _ _ ⟨(show 1 ≤ x_1996.toInt ∧ x_1996.toInt ≤ 7 from by omega), (show -1 ≤ x_1994.toInt ∧ x_1994.toInt ≤ 66 from by omega), hP.sub [0, 1, 2, 3, 4, 5, 6, 7] rfl, hD.sub [0, 1, 2, 3, 4, 5, 6, 7] (by decide) rfl, hS, lv_sub hl [0, 1, 2] rfl⟩ (by show (2147483647 - x_1996.toInt).toNat < (2147483647 - L2_1952.toInt).toNat; omega)
set_option maxHeartbeats 8000000 in
set_option maxRecDepth 100000 in
theorem g_X0_isFirm (l : Launch) (D : va_G) (cA : Nat → ClassId) (h0 : Nat) (b_bundlesFound : Int32) (b_firstBundle : Int32) (b_sets : Int32) (b_qlengths : Nat) (b_qworths0 : Nat) (b_qworths1 : Nat) (g : Nat) (b_cworths0 : Nat → Int32) (b_cworths1 : Nat → Int32) (p0 : Int32) (h_p0 : 0 ≤ (p0 : Int32).toInt ∧ (p0 : Int32).toInt ≤ 127) (h_b_sets : (b_sets : Int32).toInt ≤ 128) : Met l yX0_isFirm (Cond.code yX0_isFirm cX0_isFirm 4 (some .boolean) :: TB) (rmd 0 0 0) (PP D cA [(h0, .inr (0, [.int b_bundlesFound, .int b_firstBundle, .int b_sets, .ref b_qlengths, .ref b_qworths0, .ref b_qworths1, .ref g])), (b_qworths0, .inl (cA 1, 128, .inl b_cworths0)), (b_qworths1, .inl (cA 1, 128, .inl b_cworths1))] [.ref h0, .int p0]) (vp_Si (fun r => 0 ≤ r.toInt ∧ r.toInt ≤ 1)) 0 0 (fun _ => False) := by
  refine Met.ofW (cc := cX0_isFirm) (maxL := 4) (ret := (some .boolean)) (by decide) rfl ?_
  intro p e s m args below meth c s₁ B hml hv
  obtain ⟨rfl, hP, hKN⟩ := hv
  have hx := B.exec
  have hb := B.bytes
  have hr := B.returns
  have hts : ∀ w ∈ TB, w.before _ s = true := fun w h => atoms_spec B.pre w (List.mem_cons_of_mem _ h)
  have hown : s.vm.findClass RX0 = some m.cls := findClass_of_methodNamed B.named
  have hlocks := B.notSynchronized
  have hl := lv_entry ([.ref h0, .int p0]) (n := 4) (Nat.le_of_ble_eq_true rfl)
  rw [lg_entry_eq]
  generalize (lg_sl ([.ref h0, .int p0]) ++ List.replicate (4 - (lg_sl ([.ref h0, .int p0])).length) Slot.unset).toArray = ls at hl ⊢
  have hl : lv_has ls 4 [(0, .ref h0), (1, .int p0)] := hl
  refine lv_iconst (v := 0) hx hb dX0_isFirm_0 (by decide) ?_
  refine lv_istore_n (lv' := [(2, .int 0), (0, .ref h0), (1, .int p0)]) hx hb dX0_isFirm_1 rfl hl (by decide) rfl (fun ls hl => ?_)
  refine loopW (σ := Int32) (fun _ => []) (fun L2_206 H locs ls => (0 ≤ L2_206.toInt ∧ L2_206.toInt ≤ 128) ∧ H = s.heap ∧ locs = [] ∧ lv_has ls 4 [(2, .int L2_206), (0, .ref h0), (1, .int p0)]) (fun L2_206 => (2147483647 - L2_206.toInt).toNat) ?_ (0 : Int32) ⟨(by decide), rfl, rfl, hl⟩
  intro x_206 H locs ls hI_206 ih_206
  obtain ⟨L2_206, rfl⟩ : ∃ z, z = x_206 := ⟨_, rfl⟩
  obtain ⟨k0_206, rfl, rfl, hl⟩ := hI_206
  have hl : lv_has ls 4 [(2, .int L2_206), (0, .ref h0), (1, .int p0)] := hl
  refine lv_iload_n hx hb dX0_isFirm_2 rfl (lv_at hl 0 rfl) ?_
  refine lv_aload_n hx hb dX0_isFirm_3 rfl (lv_at hl 1 rfl) ?_
  refine va_get (D := D) (ci := 0) (v := .int b_sets) (C := RX0) (T := TX0) (N := 7) hx hb hts inX0 hown hKN.1 hP 0 rfl rfl 2 (by decide) (hts _ tw_421) (fun _ h9 => h9) rfl dX0_isFirm_4 ?_
  refine lv_icmp_ge (tgt := 88) hx hb dX0_isFirm_7 (by decide) (fun c_207 => ?_) (fun c_207 => ?_)
  · skip
    have k_208 := kk_le rfl rfl c_207
    refine lv_iconst (v := 1) hx hb dX0_isFirm_88 (by decide) ?_
    exact W.zret (v := 1) hx hb hr (by decide) (fun t ht hW => ⟨1, rfl, (show 0 ≤ (1 : Int32).toInt ∧ (1 : Int32).toInt ≤ 1 from by decide), ht⟩) (fun _ h => by cases h) dX0_isFirm_89
  · skip
    have k_209 := kk_nle rfl rfl c_207
    refine lv_aload_n hx hb dX0_isFirm_10 rfl (lv_at hl 1 rfl) ?_
    refine va_get (D := D) (ci := 0) (v := .ref b_qworths0) (C := RX0) (T := TX0) (N := 7) hx hb hts inX0 hown hKN.1 hP 0 rfl rfl 4 (by decide) (hts _ tw_423) (fun _ h9 => h9) rfl dX0_isFirm_11 ?_
    refine lv_iload_n hx hb dX0_isFirm_14 rfl (lv_at hl 0 rfl) ?_
    refine va_iald hx hb hKN.1 hP 1 1 rfl rfl (vp_in_iff.mpr ⟨by omega, by omega⟩) dX0_isFirm_15 ?_
    refine lv_topi (fun x_210 ex_210 => ?_)
    refine lv_aload_n hx hb dX0_isFirm_16 rfl (lv_at hl 1 rfl) ?_
    refine va_get (D := D) (ci := 0) (v := .ref b_qworths0) (C := RX0) (T := TX0) (N := 7) hx hb hts inX0 hown hKN.1 hP 0 rfl rfl 4 (by decide) (hts _ tw_423) (fun _ h9 => h9) rfl dX0_isFirm_17 ?_
    refine lv_iload_n hx hb dX0_isFirm_20 rfl (lv_at hl 2 rfl) ?_
    refine va_iald hx hb hKN.1 hP 1 1 rfl rfl (vp_in_iff.mpr ⟨by omega, by omega⟩) dX0_isFirm_21 ?_
    refine lv_topi (fun x_211 ex_211 => ?_)
    refine lv_icmp_lt (tgt := 44) hx hb dX0_isFirm_22 (by decide) (fun c_212 => ?_) (fun c_212 => ?_)
    · skip
      have b_214 := i32_bd x_210
      have b_215 := i32_bd x_211
      have k_213 := kk_lt rfl rfl c_212
      refine lv_iconst (v := 0) hx hb dX0_isFirm_44 (by decide) ?_
      refine lv_istore_n (lv' := [(3, .int 0), (2, .int L2_206), (0, .ref h0), (1, .int p0)]) hx hb dX0_isFirm_45 rfl hl (by decide) rfl (fun ls hl => ?_)
      refine lv_iload_n hx hb dX0_isFirm_46 rfl (lv_at hl 0 rfl) ?_
      refine lv_if_eq (tgt := 82) hx hb dX0_isFirm_47 (by decide) (fun c_216 => ?_) (fun c_216 => absurd (by decide) c_216)
      obtain ⟨x_217, ex_217⟩ : ∃ y : Int32, L2_206 + Int32.ofInt 1 = y := ⟨_, rfl⟩
      have k_218 := ar_add (b := 1) rfl zi_1 ex_217.symm (by omega) (by omega)
      refine lv_iinc (v := x_217) (lv' := [(2, .int x_217), (3, .int 0), (0, .ref h0), (1, .int p0)]) hx hb dX0_isFirm_82 hl (k := 1) rfl ex_217 (by decide) rfl (fun ls hl => ?_)
      refine lv_goto (tgt := 2) hx hb dX0_isFirm_85 (by decide) ?_
      exact ih_206 (x_217) _ _ _ ⟨(show 0 ≤ x_217.toInt ∧ x_217.toInt ≤ 128 from by omega), rfl, rfl, lv_sub hl [0, 2, 3] rfl⟩ (by show (2147483647 - x_217.toInt).toNat < (2147483647 - L2_206.toInt).toNat; omega)
    · skip
      have b_220 := i32_bd x_210
      have b_221 := i32_bd x_211
      have k_219 := kk_nlt rfl rfl c_212
      refine lv_aload_n hx hb dX0_isFirm_25 rfl (lv_at hl 1 rfl) ?_
      refine va_get (D := D) (ci := 0) (v := .ref b_qworths1) (C := RX0) (T := TX0) (N := 7) hx hb hts inX0 hown hKN.1 hP 0 rfl rfl 5 (by decide) (hts _ tw_424) (fun _ h9 => h9) rfl dX0_isFirm_26 ?_
      refine lv_iload_n hx hb dX0_isFirm_29 rfl (lv_at hl 0 rfl) ?_
      refine va_iald hx hb hKN.1 hP 2 1 rfl rfl (vp_in_iff.mpr ⟨by omega, by omega⟩) dX0_isFirm_30 ?_
      refine lv_topi (fun x_222 ex_222 => ?_)
      refine lv_aload_n hx hb dX0_isFirm_31 rfl (lv_at hl 1 rfl) ?_
      refine va_get (D := D) (ci := 0) (v := .ref b_qworths1) (C := RX0) (T := TX0) (N := 7) hx hb hts inX0 hown hKN.1 hP 0 rfl rfl 5 (by decide) (hts _ tw_424) (fun _ h9 => h9) rfl dX0_isFirm_32 ?_
      refine lv_iload_n hx hb dX0_isFirm_35 rfl (lv_at hl 2 rfl) ?_
      refine va_iald hx hb hKN.1 hP 2 1 rfl rfl (vp_in_iff.mpr ⟨by omega, by omega⟩) dX0_isFirm_36 ?_
      refine lv_topi (fun x_223 ex_223 => ?_)
      refine lv_icmp_lt (tgt := 44) hx hb dX0_isFirm_37 (by decide) (fun c_224 => ?_) (fun c_224 => ?_)
      · skip
        have b_226 := i32_bd x_222
        have b_227 := i32_bd x_223
        have k_225 := kk_lt rfl rfl c_224
        refine lv_iconst (v := 0) hx hb dX0_isFirm_44 (by decide) ?_
        refine lv_istore_n (lv' := [(3, .int 0), (2, .int L2_206), (0, .ref h0), (1, .int p0)]) hx hb dX0_isFirm_45 rfl hl (by decide) rfl (fun ls hl => ?_)
        refine lv_iload_n hx hb dX0_isFirm_46 rfl (lv_at hl 0 rfl) ?_
        refine lv_if_eq (tgt := 82) hx hb dX0_isFirm_47 (by decide) (fun c_228 => ?_) (fun c_228 => absurd (by decide) c_228)
        obtain ⟨x_229, ex_229⟩ : ∃ y : Int32, L2_206 + Int32.ofInt 1 = y := ⟨_, rfl⟩
        have k_230 := ar_add (b := 1) rfl zi_1 ex_229.symm (by omega) (by omega)
        refine lv_iinc (v := x_229) (lv' := [(2, .int x_229), (3, .int 0), (0, .ref h0), (1, .int p0)]) hx hb dX0_isFirm_82 hl (k := 1) rfl ex_229 (by decide) rfl (fun ls hl => ?_)
        refine lv_goto (tgt := 2) hx hb dX0_isFirm_85 (by decide) ?_
        exact ih_206 (x_229) _ _ _ ⟨(show 0 ≤ x_229.toInt ∧ x_229.toInt ≤ 128 from by omega), rfl, rfl, lv_sub hl [0, 2, 3] rfl⟩ (by show (2147483647 - x_229.toInt).toNat < (2147483647 - L2_206.toInt).toNat; omega)
      · skip
        have b_232 := i32_bd x_222
        have b_233 := i32_bd x_223
        have k_231 := kk_nlt rfl rfl c_224
        refine lv_iconst (v := 1) hx hb dX0_isFirm_40 (by decide) ?_
        refine lv_goto (tgt := 45) hx hb dX0_isFirm_41 (by decide) ?_
        refine lv_istore_n (lv' := [(3, .int 1), (2, .int L2_206), (0, .ref h0), (1, .int p0)]) hx hb dX0_isFirm_45 rfl hl (by decide) rfl (fun ls hl => ?_)
        refine lv_iload_n hx hb dX0_isFirm_46 rfl (lv_at hl 0 rfl) ?_
        refine lv_if_eq (tgt := 82) hx hb dX0_isFirm_47 (by decide) (fun c_234 => absurd c_234 (by decide)) (fun c_234 => ?_)
        refine lv_aload_n hx hb dX0_isFirm_50 rfl (lv_at hl 2 rfl) ?_
        refine va_get (D := D) (ci := 0) (v := .ref b_qworths0) (C := RX0) (T := TX0) (N := 7) hx hb hts inX0 hown hKN.1 hP 0 rfl rfl 4 (by decide) (hts _ tw_423) (fun _ h9 => h9) rfl dX0_isFirm_51 ?_
        refine lv_iload_n hx hb dX0_isFirm_54 rfl (lv_at hl 1 rfl) ?_
        refine va_iald hx hb hKN.1 hP 1 1 rfl rfl (vp_in_iff.mpr ⟨by omega, by omega⟩) dX0_isFirm_55 ?_
        refine lv_topi (fun x_235 ex_235 => ?_)
        obtain rfl : x_210 = x_235 := ex_210.trans ex_235.symm
        refine lv_aload_n hx hb dX0_isFirm_56 rfl (lv_at hl 2 rfl) ?_
        refine va_get (D := D) (ci := 0) (v := .ref b_qworths0) (C := RX0) (T := TX0) (N := 7) hx hb hts inX0 hown hKN.1 hP 0 rfl rfl 4 (by decide) (hts _ tw_423) (fun _ h9 => h9) rfl dX0_isFirm_57 ?_
        refine lv_iload_n hx hb dX0_isFirm_60 rfl (lv_at hl 3 rfl) ?_
        refine va_iald hx hb hKN.1 hP 1 1 rfl rfl (vp_in_iff.mpr ⟨by omega, by omega⟩) dX0_isFirm_61 ?_
        refine lv_topi (fun x_236 ex_236 => ?_)
        obtain rfl : x_211 = x_236 := ex_211.trans ex_236.symm
        refine lv_icmp_gt (tgt := 80) hx hb dX0_isFirm_62 (by decide) (fun c_237 => ?_) (fun c_237 => ?_)
        · skip
          have k_238 := kk_lt rfl rfl c_237
          refine lv_iconst (v := 0) hx hb dX0_isFirm_80 (by decide) ?_
          exact W.zret (v := 0) hx hb hr (by decide) (fun t ht hW => ⟨0, rfl, (show 0 ≤ (0 : Int32).toInt ∧ (0 : Int32).toInt ≤ 1 from by decide), ht⟩) (fun _ h => by cases h) dX0_isFirm_81
        · skip
          have k_239 := kk_nlt rfl rfl c_237
          refine lv_aload_n hx hb dX0_isFirm_65 rfl (lv_at hl 2 rfl) ?_
          refine va_get (D := D) (ci := 0) (v := .ref b_qworths1) (C := RX0) (T := TX0) (N := 7) hx hb hts inX0 hown hKN.1 hP 0 rfl rfl 5 (by decide) (hts _ tw_424) (fun _ h9 => h9) rfl dX0_isFirm_66 ?_
          refine lv_iload_n hx hb dX0_isFirm_69 rfl (lv_at hl 1 rfl) ?_
          refine va_iald hx hb hKN.1 hP 2 1 rfl rfl (vp_in_iff.mpr ⟨by omega, by omega⟩) dX0_isFirm_70 ?_
          refine lv_topi (fun x_240 ex_240 => ?_)
          obtain rfl : x_222 = x_240 := ex_222.trans ex_240.symm
          refine lv_aload_n hx hb dX0_isFirm_71 rfl (lv_at hl 2 rfl) ?_
          refine va_get (D := D) (ci := 0) (v := .ref b_qworths1) (C := RX0) (T := TX0) (N := 7) hx hb hts inX0 hown hKN.1 hP 0 rfl rfl 5 (by decide) (hts _ tw_424) (fun _ h9 => h9) rfl dX0_isFirm_72 ?_
          refine lv_iload_n hx hb dX0_isFirm_75 rfl (lv_at hl 3 rfl) ?_
          refine va_iald hx hb hKN.1 hP 2 1 rfl rfl (vp_in_iff.mpr ⟨by omega, by omega⟩) dX0_isFirm_76 ?_
          refine lv_topi (fun x_241 ex_241 => ?_)
          obtain rfl : x_223 = x_241 := ex_223.trans ex_241.symm
          refine lv_icmp_le (tgt := 82) hx hb dX0_isFirm_77 (by decide) (fun c_242 => ?_) (fun c_242 => ?_)
          · skip
            have k_243 := kk_le rfl rfl c_242
            obtain ⟨x_244, ex_244⟩ : ∃ y : Int32, L2_206 + Int32.ofInt 1 = y := ⟨_, rfl⟩
            have k_245 := ar_add (b := 1) rfl zi_1 ex_244.symm (by omega) (by omega)
            refine lv_iinc (v := x_244) (lv' := [(2, .int x_244), (3, .int 1), (0, .ref h0), (1, .int p0)]) hx hb dX0_isFirm_82 hl (k := 1) rfl ex_244 (by decide) rfl (fun ls hl => ?_)
            refine lv_goto (tgt := 2) hx hb dX0_isFirm_85 (by decide) ?_
            exact ih_206 (x_244) _ _ _ ⟨(show 0 ≤ x_244.toInt ∧ x_244.toInt ≤ 128 from by omega), rfl, rfl, lv_sub hl [0, 2, 3] rfl⟩ (by show (2147483647 - x_244.toInt).toNat < (2147483647 - L2_206.toInt).toNat; omega)
          · skip
            have k_246 := kk_nle rfl rfl c_242
            refine lv_iconst (v := 0) hx hb dX0_isFirm_80 (by decide) ?_
            exact W.zret (v := 0) hx hb hr (by decide) (fun t ht hW => ⟨0, rfl, (show 0 ≤ (0 : Int32).toInt ∧ (0 : Int32).toInt ≤ 1 from by decide), ht⟩) (fun _ h => by cases h) dX0_isFirm_81
set_option maxHeartbeats 8000000 in
set_option maxRecDepth 100000 in
theorem g_X0_firmSets (l : Launch) (D : va_G) (cA : Nat → ClassId) (sz : Nat) (h0 : Nat) (b_bundlesFound : Int32) (b_firstBundle : Int32) (b_sets : Int32) (b_qlengths : Nat) (b_qworths0 : Nat) (b_qworths1 : Nat) (g : Nat) (b_clengths : Nat → Int32) (b_cworths0 : Nat → Int32) (b_cworths1 : Nat → Int32) (g_odds : Int32) (g_pot : Int32) (g_lines : Int32) (g_men : Int32) (g_clauses : Int32) (g_winds : Int32) (g_far0 : Int32) (g_far1 : Int32) (g_qsides : Nat) (g_qgrips : Nat) (g_qwits : Nat) (g_qsays : Nat) (g_qgives0 : Nat) (g_qgives1 : Nat) (g_qfroms : Nat) (g_qtos : Nat) (g_csays : Nat → Int32) (g_cgives0 : Nat → Int32) (g_cgives1 : Nat → Int32) (h_g_odds : -999 ≤ (g_odds : Int32).toInt ∧ (g_odds : Int32).toInt ≤ 999) (h_g_pot : -999 ≤ (g_pot : Int32).toInt ∧ (g_pot : Int32).toInt ≤ 999) (h_g_men : 0 ≤ (g_men : Int32).toInt ∧ (g_men : Int32).toInt ≤ 8) (h_g_clauses : 0 ≤ (g_clauses : Int32).toInt ∧ (g_clauses : Int32).toInt ≤ 7) (h_g_winds : 0 ≤ (g_winds : Int32).toInt ∧ (g_winds : Int32).toInt ≤ 4) (h_g_far0 : -999 ≤ (g_far0 : Int32).toInt ∧ (g_far0 : Int32).toInt ≤ 999) (h_g_far1 : -999 ≤ (g_far1 : Int32).toInt ∧ (g_far1 : Int32).toInt ≤ 999) : Met l yX0_firmSets (Cond.code yX0_firmSets cX0_firmSets 3 (some .int) :: TB) (rmd 3 0 0) (PM D cA sz [(h0, .inr (0, [.int b_bundlesFound, .int b_firstBundle, .int b_sets, .ref b_qlengths, .ref b_qworths0, .ref b_qworths1, .ref g])), (b_qlengths, .inl (cA 1, 128, .inl b_clengths)), (b_qworths0, .inl (cA 1, 128, .inl b_cworths0)), (b_qworths1, .inl (cA 1, 128, .inl b_cworths1)), (g, .inr (3, [.int g_odds, .int g_pot, .int g_lines, .int g_men, .int g_clauses, .int g_winds, .int g_far0, .int g_far1, .ref g_qsides, .ref g_qgrips, .ref g_qwits, .ref g_qsays, .ref g_qgives0, .ref g_qgives1, .ref g_qfroms, .ref g_qtos])), (g_qsays, .inl (cA 1, 7, .inl g_csays)), (g_qgives0, .inl (cA 1, 7, .inl g_cgives0)), (g_qgives1, .inl (cA 1, 7, .inl g_cgives1))] [.ref h0]) (va_Qi (fun r (u : SU) => (1 ≤ (u.2.1 0).toInt ∧ (u.2.1 0).toInt ≤ 128)) (fun u t => va_P D vwCl [(h0, .inr (0, [.int b_bundlesFound, .int b_firstBundle, .int (u.2.1 0), .ref b_qlengths, .ref b_qworths0, .ref b_qworths1, .ref g])), (b_qlengths, .inl (cA 1, 128, .inl (u.2.2.1 0))), (b_qworths0, .inl (cA 1, 128, .inl (u.2.2.1 1))), (b_qworths1, .inl (cA 1, 128, .inl (u.2.2.1 2))), (g, .inr (3, [.int g_odds, .int g_pot, .int g_lines, .int g_men, .int g_clauses, .int g_winds, .int g_far0, .int g_far1, .ref g_qsides, .ref g_qgrips, .ref g_qwits, .ref g_qsays, .ref g_qgives0, .ref g_qgives1, .ref g_qfroms, .ref g_qtos])), (g_qsays, .inl (cA 1, 7, .inl g_csays)), (g_qgives0, .inl (cA 1, 7, .inl g_cgives0)), (g_qgives1, .inl (cA 1, 7, .inl g_cgives1))] t.heap ∧ va_D (va_A [(h0, .inr (0, [.int b_bundlesFound, .int b_firstBundle, .int b_sets, .ref b_qlengths, .ref b_qworths0, .ref b_qworths1, .ref g])), (b_qlengths, .inl (cA 1, 128, .inl b_clengths)), (b_qworths0, .inl (cA 1, 128, .inl b_cworths0)), (b_qworths1, .inl (cA 1, 128, .inl b_cworths1)), (g, .inr (3, [.int g_odds, .int g_pot, .int g_lines, .int g_men, .int g_clauses, .int g_winds, .int g_far0, .int g_far1, .ref g_qsides, .ref g_qgrips, .ref g_qwits, .ref g_qsays, .ref g_qgives0, .ref g_qgives1, .ref g_qfroms, .ref g_qtos])), (g_qsays, .inl (cA 1, 7, .inl g_csays)), (g_qgives0, .inl (cA 1, 7, .inl g_cgives0)), (g_qgives1, .inl (cA 1, 7, .inl g_cgives1))] sz) [(h0, .inr (0, [.int b_bundlesFound, .int b_firstBundle, .int (u.2.1 0), .ref b_qlengths, .ref b_qworths0, .ref b_qworths1, .ref g])), (b_qlengths, .inl (cA 1, 128, .inl (u.2.2.1 0))), (b_qworths0, .inl (cA 1, 128, .inl (u.2.2.1 1))), (b_qworths1, .inl (cA 1, 128, .inl (u.2.2.1 2))), (g, .inr (3, [.int g_odds, .int g_pot, .int g_lines, .int g_men, .int g_clauses, .int g_winds, .int g_far0, .int g_far1, .ref g_qsides, .ref g_qgrips, .ref g_qwits, .ref g_qsays, .ref g_qgives0, .ref g_qgives1, .ref g_qfroms, .ref g_qtos])), (g_qsays, .inl (cA 1, 7, .inl g_csays)), (g_qgives0, .inl (cA 1, 7, .inl g_cgives0)), (g_qgives1, .inl (cA 1, 7, .inl g_cgives1))]) (va_A [(h0, .inr (0, [.int b_bundlesFound, .int b_firstBundle, .int b_sets, .ref b_qlengths, .ref b_qworths0, .ref b_qworths1, .ref g])), (b_qlengths, .inl (cA 1, 128, .inl b_clengths)), (b_qworths0, .inl (cA 1, 128, .inl b_cworths0)), (b_qworths1, .inl (cA 1, 128, .inl b_cworths1)), (g, .inr (3, [.int g_odds, .int g_pot, .int g_lines, .int g_men, .int g_clauses, .int g_winds, .int g_far0, .int g_far1, .ref g_qsides, .ref g_qgrips, .ref g_qwits, .ref g_qsays, .ref g_qgives0, .ref g_qgives1, .ref g_qfroms, .ref g_qtos])), (g_qsays, .inl (cA 1, 7, .inl g_csays)), (g_qgives0, .inl (cA 1, 7, .inl g_cgives0)), (g_qgives1, .inl (cA 1, 7, .inl g_cgives1))] sz)) 0 0 (va_A [(h0, .inr (0, [.int b_bundlesFound, .int b_firstBundle, .int b_sets, .ref b_qlengths, .ref b_qworths0, .ref b_qworths1, .ref g])), (b_qlengths, .inl (cA 1, 128, .inl b_clengths)), (b_qworths0, .inl (cA 1, 128, .inl b_cworths0)), (b_qworths1, .inl (cA 1, 128, .inl b_cworths1)), (g, .inr (3, [.int g_odds, .int g_pot, .int g_lines, .int g_men, .int g_clauses, .int g_winds, .int g_far0, .int g_far1, .ref g_qsides, .ref g_qgrips, .ref g_qwits, .ref g_qsays, .ref g_qgives0, .ref g_qgives1, .ref g_qfroms, .ref g_qtos])), (g_qsays, .inl (cA 1, 7, .inl g_csays)), (g_qgives0, .inl (cA 1, 7, .inl g_cgives0)), (g_qgives1, .inl (cA 1, 7, .inl g_cgives1))] sz) := by
  refine Met.ofW (cc := cX0_firmSets) (maxL := 3) (ret := (some .int)) (by decide) rfl ?_
  intro p e s m args below meth c s₁ B hml hv
  obtain ⟨rfl, hsz, hP, hKN, hD0⟩ := hv
  have hx := B.exec
  have hb := B.bytes
  have hr := B.returns
  have hts : ∀ w ∈ TB, w.before _ s = true := fun w h => atoms_spec B.pre w (List.mem_cons_of_mem _ h)
  have hown : s.vm.findClass RX0 = some m.cls := findClass_of_methodNamed B.named
  have hlocks := B.notSynchronized
  subst hsz
  have hD := hD0.self (sz := s.heap.size)
  generalize hAe : va_A [(h0, .inr (0, [.int b_bundlesFound, .int b_firstBundle, .int b_sets, .ref b_qlengths, .ref b_qworths0, .ref b_qworths1, .ref g])), (b_qlengths, .inl (cA 1, 128, .inl b_clengths)), (b_qworths0, .inl (cA 1, 128, .inl b_cworths0)), (b_qworths1, .inl (cA 1, 128, .inl b_cworths1)), (g, .inr (3, [.int g_odds, .int g_pot, .int g_lines, .int g_men, .int g_clauses, .int g_winds, .int g_far0, .int g_far1, .ref g_qsides, .ref g_qgrips, .ref g_qwits, .ref g_qsays, .ref g_qgives0, .ref g_qgives1, .ref g_qfroms, .ref g_qtos])), (g_qsays, .inl (cA 1, 7, .inl g_csays)), (g_qgives0, .inl (cA 1, 7, .inl g_cgives0)), (g_qgives1, .inl (cA 1, 7, .inl g_cgives1))] s.heap.size = A at hD ⊢
  have hA : ∀ q : Nat, s.heap.size ≤ q → A q := fun q h => by rw [← hAe]; exact Or.inr h
  have hS : va_S A s.heap s.heap [] := va_S.rf
  have hl := lv_entry ([.ref h0]) (n := 3) (Nat.le_of_ble_eq_true rfl)
  rw [lg_entry_eq]
  generalize (lg_sl ([.ref h0]) ++ List.replicate (3 - (lg_sl ([.ref h0])).length) Slot.unset).toArray = ls at hl ⊢
  have hl : lv_has ls 3 [(0, .ref h0)] := hl
  refine lv_aload_n hx hb dX0_firmSets_0 rfl (lv_at hl 0 rfl) ?_
  refine cmVv (rest := []) (wsC := [(h0, .inr (0, [.int b_bundlesFound, .int b_firstBundle, .int b_sets, .ref b_qlengths, .ref b_qworths0, .ref b_qworths1, .ref g])), (b_qlengths, .inl (cA 1, 128, .inl b_clengths)), (b_qworths0, .inl (cA 1, 128, .inl b_cworths0)), (b_qworths1, .inl (cA 1, 128, .inl b_cworths1)), (g, .inr (3, [.int g_odds, .int g_pot, .int g_lines, .int g_men, .int g_clauses, .int g_winds, .int g_far0, .int g_far1, .ref g_qsides, .ref g_qgrips, .ref g_qwits, .ref g_qsays, .ref g_qgives0, .ref g_qgives1, .ref g_qfroms, .ref g_qtos])), (g_qsays, .inl (cA 1, 7, .inl g_csays)), (g_qgives0, .inl (cA 1, 7, .inl g_cgives0)), (g_qgives1, .inl (cA 1, 7, .inl g_cgives1))]) (wr := []) ⟨hx, hb, hml, hown, hts⟩ hKN hP hD hS hA [0, 1, 2, 3, 4, 5, 6, 7] [] rfl rfl (by decide) (by decide) (by decide) (g_X0_weighSets l D cA _ h0 b_bundlesFound b_firstBundle b_sets b_qlengths b_qworths0 b_qworths1 g b_clengths b_cworths0 b_cworths1 g_odds g_pot g_lines g_men g_clauses g_winds g_far0 g_far1 g_qsides g_qgrips g_qwits g_qsays g_qgives0 g_qgives1 g_qfroms g_qtos g_csays g_cgives0 g_cgives1 (by omega) (by omega) (by omega) (by omega) (by omega) (by omega) (by omega)) (tb_V tw_1047 tw_1049 tw_22 tw_112 tw_1050) hdX0_weighSets ⟨rfl, rfl, Nat.le_of_ble_eq_true rfl, Nat.le_of_ble_eq_true rfl⟩ ⟨Nat.le_of_ble_eq_true rfl, Nat.le_of_ble_eq_true rfl⟩ rfl rfl rfl hl.1 rfl (Nat.le_of_ble_eq_true rfl) dX0_firmSets_1 (fun u_1 H locs hr_1 hP hD hS => ?_)
  have hP : va_P D vwCl [(h0, .inr (0, [.int b_bundlesFound, .int b_firstBundle, .int (u_1.2.1 0), .ref b_qlengths, .ref b_qworths0, .ref b_qworths1, .ref g])), (b_qlengths, .inl (cA 1, 128, .inl (u_1.2.2.1 0))), (b_qworths0, .inl (cA 1, 128, .inl (u_1.2.2.1 1))), (b_qworths1, .inl (cA 1, 128, .inl (u_1.2.2.1 2))), (g, .inr (3, [.int g_odds, .int g_pot, .int g_lines, .int g_men, .int g_clauses, .int g_winds, .int g_far0, .int g_far1, .ref g_qsides, .ref g_qgrips, .ref g_qwits, .ref g_qsays, .ref g_qgives0, .ref g_qgives1, .ref g_qfroms, .ref g_qtos])), (g_qsays, .inl (cA 1, 7, .inl g_csays)), (g_qgives0, .inl (cA 1, 7, .inl g_cgives0)), (g_qgives1, .inl (cA 1, 7, .inl g_cgives1))] H := hP
  have hD : va_D A [(h0, .inr (0, [.int b_bundlesFound, .int b_firstBundle, .int (u_1.2.1 0), .ref b_qlengths, .ref b_qworths0, .ref b_qworths1, .ref g])), (b_qlengths, .inl (cA 1, 128, .inl (u_1.2.2.1 0))), (b_qworths0, .inl (cA 1, 128, .inl (u_1.2.2.1 1))), (b_qworths1, .inl (cA 1, 128, .inl (u_1.2.2.1 2))), (g, .inr (3, [.int g_odds, .int g_pot, .int g_lines, .int g_men, .int g_clauses, .int g_winds, .int g_far0, .int g_far1, .ref g_qsides, .ref g_qgrips, .ref g_qwits, .ref g_qsays, .ref g_qgives0, .ref g_qgives1, .ref g_qfroms, .ref g_qtos])), (g_qsays, .inl (cA 1, 7, .inl g_csays)), (g_qgives0, .inl (cA 1, 7, .inl g_cgives0)), (g_qgives1, .inl (cA 1, 7, .inl g_cgives1))] := hD
  have hr_1_0 := hr_1
  refine lv_iconst (v := 0) hx hb dX0_firmSets_4 (by decide) ?_
  refine lv_istore_n (lv' := [(1, .int 0), (0, .ref h0)]) hx hb dX0_firmSets_5 rfl hl (by decide) rfl (fun ls hl => ?_)
  refine lv_iconst (v := 0) hx hb dX0_firmSets_6 (by decide) ?_
  refine lv_istore_n (lv' := [(2, .int 0), (1, .int 0), (0, .ref h0)]) hx hb dX0_firmSets_7 rfl hl (by decide) rfl (fun ls hl => ?_)
  refine loopW (σ := Int32 × Int32) (fun _ => []) (fun ⟨L2_83, L1_83⟩ H locs ls => (0 ≤ L2_83.toInt ∧ L2_83.toInt ≤ 128) ∧ va_P D vwCl [(h0, .inr (0, [.int b_bundlesFound, .int b_firstBundle, .int (u_1.2.1 0), .ref b_qlengths, .ref b_qworths0, .ref b_qworths1, .ref g])), (b_qlengths, .inl (cA 1, 128, .inl (u_1.2.2.1 0))), (b_qworths0, .inl (cA 1, 128, .inl (u_1.2.2.1 1))), (b_qworths1, .inl (cA 1, 128, .inl (u_1.2.2.1 2))), (g, .inr (3, [.int g_odds, .int g_pot, .int g_lines, .int g_men, .int g_clauses, .int g_winds, .int g_far0, .int g_far1, .ref g_qsides, .ref g_qgrips, .ref g_qwits, .ref g_qsays, .ref g_qgives0, .ref g_qgives1, .ref g_qfroms, .ref g_qtos])), (g_qsays, .inl (cA 1, 7, .inl g_csays)), (g_qgives0, .inl (cA 1, 7, .inl g_cgives0)), (g_qgives1, .inl (cA 1, 7, .inl g_cgives1))] H ∧ va_D A [(h0, .inr (0, [.int b_bundlesFound, .int b_firstBundle, .int (u_1.2.1 0), .ref b_qlengths, .ref b_qworths0, .ref b_qworths1, .ref g])), (b_qlengths, .inl (cA 1, 128, .inl (u_1.2.2.1 0))), (b_qworths0, .inl (cA 1, 128, .inl (u_1.2.2.1 1))), (b_qworths1, .inl (cA 1, 128, .inl (u_1.2.2.1 2))), (g, .inr (3, [.int g_odds, .int g_pot, .int g_lines, .int g_men, .int g_clauses, .int g_winds, .int g_far0, .int g_far1, .ref g_qsides, .ref g_qgrips, .ref g_qwits, .ref g_qsays, .ref g_qgives0, .ref g_qgives1, .ref g_qfroms, .ref g_qtos])), (g_qsays, .inl (cA 1, 7, .inl g_csays)), (g_qgives0, .inl (cA 1, 7, .inl g_cgives0)), (g_qgives1, .inl (cA 1, 7, .inl g_cgives1))] ∧ va_S A s.heap H locs ∧ lv_has ls 3 [(2, .int L2_83), (1, .int L1_83), (0, .ref h0)]) (fun ⟨L2_83, L1_83⟩ => (2147483647 - L2_83.toInt).toNat) ?_ ((0, 0) : Int32 × Int32) ⟨(by decide), hP, hD, hS, hl⟩
  intro x_83 H locs ls hI_83 ih_83
  obtain ⟨L2_83, L1_83⟩ := x_83
  obtain ⟨k0_83, hP, hD, hS, hl⟩ := hI_83
  have hP : va_P D vwCl [(h0, .inr (0, [.int b_bundlesFound, .int b_firstBundle, .int (u_1.2.1 0), .ref b_qlengths, .ref b_qworths0, .ref b_qworths1, .ref g])), (b_qlengths, .inl (cA 1, 128, .inl (u_1.2.2.1 0))), (b_qworths0, .inl (cA 1, 128, .inl (u_1.2.2.1 1))), (b_qworths1, .inl (cA 1, 128, .inl (u_1.2.2.1 2))), (g, .inr (3, [.int g_odds, .int g_pot, .int g_lines, .int g_men, .int g_clauses, .int g_winds, .int g_far0, .int g_far1, .ref g_qsides, .ref g_qgrips, .ref g_qwits, .ref g_qsays, .ref g_qgives0, .ref g_qgives1, .ref g_qfroms, .ref g_qtos])), (g_qsays, .inl (cA 1, 7, .inl g_csays)), (g_qgives0, .inl (cA 1, 7, .inl g_cgives0)), (g_qgives1, .inl (cA 1, 7, .inl g_cgives1))] H := hP
  have hD : va_D A [(h0, .inr (0, [.int b_bundlesFound, .int b_firstBundle, .int (u_1.2.1 0), .ref b_qlengths, .ref b_qworths0, .ref b_qworths1, .ref g])), (b_qlengths, .inl (cA 1, 128, .inl (u_1.2.2.1 0))), (b_qworths0, .inl (cA 1, 128, .inl (u_1.2.2.1 1))), (b_qworths1, .inl (cA 1, 128, .inl (u_1.2.2.1 2))), (g, .inr (3, [.int g_odds, .int g_pot, .int g_lines, .int g_men, .int g_clauses, .int g_winds, .int g_far0, .int g_far1, .ref g_qsides, .ref g_qgrips, .ref g_qwits, .ref g_qsays, .ref g_qgives0, .ref g_qgives1, .ref g_qfroms, .ref g_qtos])), (g_qsays, .inl (cA 1, 7, .inl g_csays)), (g_qgives0, .inl (cA 1, 7, .inl g_cgives0)), (g_qgives1, .inl (cA 1, 7, .inl g_cgives1))] := hD
  have hl : lv_has ls 3 [(2, .int L2_83), (1, .int L1_83), (0, .ref h0)] := hl
  refine lv_iload_n hx hb dX0_firmSets_8 rfl (lv_at hl 0 rfl) ?_
  refine lv_aload_n hx hb dX0_firmSets_9 rfl (lv_at hl 2 rfl) ?_
  refine va_get (D := D) (ci := 0) (v := .int (u_1.2.1 0)) (C := RX0) (T := TX0) (N := 7) hx hb hts inX0 hown hKN.1 hP 0 rfl rfl 2 (by decide) (hts _ tw_421) (fun _ h9 => h9) rfl dX0_firmSets_10 ?_
  refine lv_icmp_ge (tgt := 33) hx hb dX0_firmSets_13 (by decide) (fun c_84 => ?_) (fun c_84 => ?_)
  · skip
    have k_85 := kk_le rfl rfl c_84
    refine lv_iload_n hx hb dX0_firmSets_33 rfl (lv_at hl 1 rfl) ?_
    have hP9 := hP.sub (ws' := [(h0, .inr (0, [.int b_bundlesFound, .int b_firstBundle, .int (u_1.2.1 0), .ref b_qlengths, .ref b_qworths0, .ref b_qworths1, .ref g])), (b_qlengths, .inl (cA 1, 128, .inl (u_1.2.2.1 0))), (b_qworths0, .inl (cA 1, 128, .inl (u_1.2.2.1 1))), (b_qworths1, .inl (cA 1, 128, .inl (u_1.2.2.1 2))), (g, .inr (3, [.int g_odds, .int g_pot, .int g_lines, .int g_men, .int g_clauses, .int g_winds, .int g_far0, .int g_far1, .ref g_qsides, .ref g_qgrips, .ref g_qwits, .ref g_qsays, .ref g_qgives0, .ref g_qgives1, .ref g_qfroms, .ref g_qtos])), (g_qsays, .inl (cA 1, 7, .inl g_csays)), (g_qgives0, .inl (cA 1, 7, .inl g_cgives0)), (g_qgives1, .inl (cA 1, 7, .inl g_cgives1))]) [0, 1, 2, 3, 4, 5, 6, 7] rfl
    have hD9 := hD.sub (ws' := [(h0, .inr (0, [.int b_bundlesFound, .int b_firstBundle, .int (u_1.2.1 0), .ref b_qlengths, .ref b_qworths0, .ref b_qworths1, .ref g])), (b_qlengths, .inl (cA 1, 128, .inl (u_1.2.2.1 0))), (b_qworths0, .inl (cA 1, 128, .inl (u_1.2.2.1 1))), (b_qworths1, .inl (cA 1, 128, .inl (u_1.2.2.1 2))), (g, .inr (3, [.int g_odds, .int g_pot, .int g_lines, .int g_men, .int g_clauses, .int g_winds, .int g_far0, .int g_far1, .ref g_qsides, .ref g_qgrips, .ref g_qwits, .ref g_qsays, .ref g_qgives0, .ref g_qgives1, .ref g_qfroms, .ref g_qtos])), (g_qsays, .inl (cA 1, 7, .inl g_csays)), (g_qgives0, .inl (cA 1, 7, .inl g_cgives0)), (g_qgives1, .inl (cA 1, 7, .inl g_cgives1))]) [0, 1, 2, 3, 4, 5, 6, 7] (by decide) rfl
    exact W.iret (v := L1_83) hx hb hr (fun t ht hW => ⟨⟨L1_83, ((fun _ => 0), (selI [(u_1.2.1 0)]), (selF [(u_1.2.2.1 0), (u_1.2.2.1 1), (u_1.2.2.1 2)]), (fun _ _ => 0)), rfl, (show 1 ≤ (u_1.2.1 0).toInt ∧ (u_1.2.1 0).toInt ≤ 128 from by omega), by rw [ht]; exact hP9, hD9⟩, hS.F ht⟩) hS.2.2 dX0_firmSets_34
  · skip
    have k_86 := kk_nle rfl rfl c_84
    refine lv_aload_n hx hb dX0_firmSets_16 rfl (lv_at hl 2 rfl) ?_
    refine lv_iload_n hx hb dX0_firmSets_17 rfl (lv_at hl 0 rfl) ?_
    refine cpVi (rest := []) ⟨hx, hb, hml, hown, hts⟩ hKN (hP.sub (ws' := [(h0, .inr (0, [.int b_bundlesFound, .int b_firstBundle, .int (u_1.2.1 0), .ref b_qlengths, .ref b_qworths0, .ref b_qworths1, .ref g])), (b_qworths0, .inl (cA 1, 128, .inl (u_1.2.2.1 1))), (b_qworths1, .inl (cA 1, 128, .inl (u_1.2.2.1 2)))]) [0, 2, 3] rfl) (g_X0_isFirm l D cA h0 b_bundlesFound b_firstBundle (u_1.2.1 0) b_qlengths b_qworths0 b_qworths1 g (u_1.2.2.1 1) (u_1.2.2.1 2) L2_83 (by omega) (by omega)) (tb_V tw_1159 tw_1161 tw_24 tw_112 tw_1162) hdX0_isFirm ⟨rfl, rfl, Nat.le_of_ble_eq_true rfl, Nat.le_of_ble_eq_true rfl⟩ ⟨Nat.le_of_ble_eq_true rfl, Nat.le_of_ble_eq_true rfl⟩ rfl rfl rfl hl.1 rfl (Nat.le_of_ble_eq_true rfl) dX0_firmSets_18 (fun r_87 hr_87 => ?_)
    refine lv_if_eq (tgt := 27) hx hb dX0_firmSets_21 (by decide) (fun c_88 => ?_) (fun c_88 => ?_)
    · skip
      have k_89 := kk_eq rfl zi_0 c_88
      obtain ⟨x_90, ex_90⟩ : ∃ y : Int32, L2_83 + Int32.ofInt 1 = y := ⟨_, rfl⟩
      have k_91 := ar_add (b := 1) rfl zi_1 ex_90.symm (by omega) (by omega)
      refine lv_iinc (v := x_90) (lv' := [(2, .int x_90), (1, .int L1_83), (0, .ref h0)]) hx hb dX0_firmSets_27 hl (k := 0) rfl ex_90 (by decide) rfl (fun ls hl => ?_)
      refine lv_goto (tgt := 8) hx hb dX0_firmSets_30 (by decide) ?_
      exact ih_83 (x_90, L1_83) _ _ _ ⟨(show 0 ≤ x_90.toInt ∧ x_90.toInt ≤ 128 from by omega), hP.sub [0, 1, 2, 3, 4, 5, 6, 7] rfl, hD.sub [0, 1, 2, 3, 4, 5, 6, 7] (by decide) rfl, hS, lv_sub hl [0, 1, 2] rfl⟩ (by show (2147483647 - x_90.toInt).toNat < (2147483647 - L2_83.toInt).toNat; omega)
    · skip
      have k_92 := kk_ne rfl zi_0 c_88
      obtain ⟨x_93, ex_93⟩ : ∃ y : Int32, L1_83 + Int32.ofInt 1 = y := ⟨_, rfl⟩
      refine lv_iinc (v := x_93) (lv' := [(1, .int x_93), (2, .int L2_83), (0, .ref h0)]) hx hb dX0_firmSets_24 hl (k := 1) rfl ex_93 (by decide) rfl (fun ls hl => ?_)
      obtain ⟨x_94, ex_94⟩ : ∃ y : Int32, L2_83 + Int32.ofInt 1 = y := ⟨_, rfl⟩
      have k_95 := ar_add (b := 1) rfl zi_1 ex_94.symm (by omega) (by omega)
      refine lv_iinc (v := x_94) (lv' := [(2, .int x_94), (1, .int x_93), (0, .ref h0)]) hx hb dX0_firmSets_27 hl (k := 1) rfl ex_94 (by decide) rfl (fun ls hl => ?_)
      refine lv_goto (tgt := 8) hx hb dX0_firmSets_30 (by decide) ?_
      exact ih_83 (x_94, x_93) _ _ _ ⟨(show 0 ≤ x_94.toInt ∧ x_94.toInt ≤ 128 from by omega), hP.sub [0, 1, 2, 3, 4, 5, 6, 7] rfl, hD.sub [0, 1, 2, 3, 4, 5, 6, 7] (by decide) rfl, hS, lv_sub hl [0, 1, 2] rfl⟩ (by show (2147483647 - x_94.toInt).toNat < (2147483647 - L2_83.toInt).toNat; omega)

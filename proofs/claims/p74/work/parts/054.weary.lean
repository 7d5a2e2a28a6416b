theorem zi_240 : (240 : Int32).toInt = 240 := by decide
theorem zi_30 : (30 : Int32).toInt = 30 := by decide
theorem zj_8 : (8 : Int64).toInt = 8 := by decide
theorem zj_99 : (99 : Int64).toInt = 99 := by decide
set_option maxHeartbeats 8000000 in
set_option maxRecDepth 100000 in
theorem g_X10_isManOf (l : Launch) (D : va_G) (cA : Nat → ClassId) (h0 : Nat) (we_fitting : Int32) (we_qfitted : Nat) (we_qsharing : Nat) (g : Nat) (sl : Nat) (g_odds : Int32) (g_pot : Int32) (g_lines : Int32) (g_men : Int32) (g_clauses : Int32) (g_winds : Int32) (g_far0 : Int32) (g_far1 : Int32) (g_qsides : Nat) (g_qgrips : Nat) (g_qwits : Nat) (g_qsays : Nat) (g_qgives0 : Nat) (g_qgives1 : Nat) (g_qfroms : Nat) (g_qtos : Nat) (g_csides : Nat → Int32) (p0 : Int64) (p1 : Int32) (h_g_odds : -999 ≤ (g_odds : Int32).toInt ∧ (g_odds : Int32).toInt ≤ 999) (h_g_pot : -999 ≤ (g_pot : Int32).toInt ∧ (g_pot : Int32).toInt ≤ 999) (h_g_men : 0 ≤ (g_men : Int32).toInt ∧ (g_men : Int32).toInt ≤ 8) (h_g_clauses : 0 ≤ (g_clauses : Int32).toInt ∧ (g_clauses : Int32).toInt ≤ 7) (h_g_winds : 0 ≤ (g_winds : Int32).toInt ∧ (g_winds : Int32).toInt ≤ 4) (h_g_far0 : -999 ≤ (g_far0 : Int32).toInt ∧ (g_far0 : Int32).toInt ≤ 999) (h_g_far1 : -999 ≤ (g_far1 : Int32).toInt ∧ (g_far1 : Int32).toInt ≤ 999) : Met l yX10_isManOf (Cond.code yX10_isManOf cX10_isManOf 4 (some .boolean) :: TB) (rmd 2 0 0) (PP D cA [(h0, .inr (10, [.int we_fitting, .ref we_qfitted, .ref we_qsharing, .ref g, .ref sl])), (g, .inr (3, [.int g_odds, .int g_pot, .int g_lines, .int g_men, .int g_clauses, .int g_winds, .int g_far0, .int g_far1, .ref g_qsides, .ref g_qgrips, .ref g_qwits, .ref g_qsays, .ref g_qgives0, .ref g_qgives1, .ref g_qfroms, .ref g_qtos])), (g_qsides, .inl (cA 1, 8, .inl g_csides))] [.ref h0, .long p0, .int p1]) (vp_Si (fun r => 0 ≤ r.toInt ∧ r.toInt ≤ 1)) 0 0 (fun _ => False) := by
  refine Met.ofW (cc := cX10_isManOf) (maxL := 4) (ret := (some .boolean)) (by decide) rfl ?_
  intro p e s m args below meth c s₁ B hml hv
  obtain ⟨rfl, hP, hKN⟩ := hv
  have hx := B.exec
  have hb := B.bytes
  have hr := B.returns
  have hts : ∀ w ∈ TB, w.before _ s = true := fun w h => atoms_spec B.pre w (List.mem_cons_of_mem _ h)
  have hown : s.vm.findClass RX10 = some m.cls := findClass_of_methodNamed B.named
  have hlocks := B.notSynchronized
  have hl := lv_entry ([.ref h0, .long p0, .int p1]) (n := 4) (Nat.le_of_ble_eq_true rfl)
  rw [lg_entry_eq]
  generalize (lg_sl ([.ref h0, .long p0, .int p1]) ++ List.replicate (4 - (lg_sl ([.ref h0, .long p0, .int p1])).length) Slot.unset).toArray = ls at hl ⊢
  have hl : lv_has ls 4 [(0, .ref h0), (1, .long p0), (3, .int p1)] := hl
  refine lv_lload_n hx hb dX10_isManOf_0 rfl (lv_at hl 1 rfl) ?_
  refine lv_lconst (v := 0) hx hb dX10_isManOf_1 (by decide) ?_
  refine W.lcmp hx hb dX10_isManOf_2 ?_
  refine lv_if_lt (tgt := 31) hx hb dX10_isManOf_3 (by decide) (fun c_1 => ?_) (fun c_1 => ?_)
  · skip
    have b_3 := i64_bd p0
    have k_2 := jj_lt rfl zj_0 c_1
    refine lv_iconst (v := 0) hx hb dX10_isManOf_31 (by decide) ?_
    exact W.zret (v := 0) hx hb hr (by decide) (fun t ht hW => ⟨0, rfl, (show 0 ≤ (0 : Int32).toInt ∧ (0 : Int32).toInt ≤ 1 from by decide), ht⟩) (fun _ h => by cases h) dX10_isManOf_32
  · skip
    have b_5 := i64_bd p0
    have k_4 := jj_nlt rfl zj_0 c_1
    refine lv_lload_n hx hb dX10_isManOf_6 rfl (lv_at hl 1 rfl) ?_
    refine lv_ldc2 (v := 8) hx hb hown (hts _ tw_1193) dX10_isManOf_7 ?_
    refine W.lcmp hx hb dX10_isManOf_10 ?_
    refine lv_if_ge (tgt := 31) hx hb dX10_isManOf_11 (by decide) (fun c_6 => ?_) (fun c_6 => ?_)
    · skip
      have k_7 := jj_ge rfl zj_8 c_6
      refine lv_iconst (v := 0) hx hb dX10_isManOf_31 (by decide) ?_
      exact W.zret (v := 0) hx hb hr (by decide) (fun t ht hW => ⟨0, rfl, (show 0 ≤ (0 : Int32).toInt ∧ (0 : Int32).toInt ≤ 1 from by decide), ht⟩) (fun _ h => by cases h) dX10_isManOf_32
    · skip
      have k_8 := jj_nge rfl zj_8 c_6
      refine lv_aload_n hx hb dX10_isManOf_14 rfl (lv_at hl 0 rfl) ?_
      refine va_get (D := D) (ci := 10) (v := .ref g) (C := RX10) (T := TX10) (N := 5) hx hb hts inX10 hown hKN.1 hP 0 rfl rfl 3 (by decide) (hts _ tw_451) (fun _ h9 => h9) rfl dX10_isManOf_15 ?_
      refine lv_lload_n hx hb dX10_isManOf_18 rfl (lv_at hl 1 rfl) ?_
      obtain ⟨x_9, ex_9⟩ : ∃ y, p0.toInt32 = y := ⟨_, rfl⟩
      refine lv_l2i (v := x_9) hx hb dX10_isManOf_19 ex_9 ?_
      have k_10 := tt_l2i ex_9 (by omega) (by omega)
      refine cpVi (rest := []) ⟨hx, hb, hml, hown, hts⟩ hKN (hP.sub (ws' := [(g, .inr (3, [.int g_odds, .int g_pot, .int g_lines, .int g_men, .int g_clauses, .int g_winds, .int g_far0, .int g_far1, .ref g_qsides, .ref g_qgrips, .ref g_qwits, .ref g_qsays, .ref g_qgives0, .ref g_qgives1, .ref g_qfroms, .ref g_qtos])), (g_qsides, .inl (cA 1, 8, .inl g_csides))]) [1, 2] rfl) (g_X3_sideOf l D cA g g_odds g_pot g_lines g_men g_clauses g_winds g_far0 g_far1 g_qsides g_qgrips g_qwits g_qsays g_qgives0 g_qgives1 g_qfroms g_qtos g_csides x_9 (by omega) (by omega) (by omega) (by omega) (by omega) (by omega) (by omega)) (tb_V tw_1194 tw_703 tw_704 tw_104 tw_705) hdX3_sideOf ⟨rfl, rfl, Nat.le_of_ble_eq_true rfl, Nat.le_of_ble_eq_true rfl⟩ ⟨Nat.le_of_ble_eq_true rfl, Nat.le_of_ble_eq_true rfl⟩ rfl rfl rfl hl.1 rfl (Nat.le_of_ble_eq_true rfl) dX10_isManOf_20 (fun r_11 hr_11 => ?_)
      rcases hr_11 with ⟨k_11_0_0, k_11_0_1⟩ | rfl
      · skip
        refine lv_iload_n hx hb dX10_isManOf_23 rfl (lv_at hl 2 rfl) ?_
        refine lv_icmp_ne (tgt := 31) hx hb dX10_isManOf_24 (by decide) (fun c_12 => ?_) (fun c_12 => ?_)
        · skip
          have b_14 := i32_bd r_11
          have b_15 := i32_bd p1
          have k_13 := kk_ne rfl rfl c_12
          refine lv_iconst (v := 0) hx hb dX10_isManOf_31 (by decide) ?_
          exact W.zret (v := 0) hx hb hr (by decide) (fun t ht hW => ⟨0, rfl, (show 0 ≤ (0 : Int32).toInt ∧ (0 : Int32).toInt ≤ 1 from by decide), ht⟩) (fun _ h => by cases h) dX10_isManOf_32
        · skip
          have b_17 := i32_bd r_11
          have b_18 := i32_bd p1
          have k_16 := kk_eq rfl rfl c_12
          refine lv_iconst (v := 1) hx hb dX10_isManOf_27 (by decide) ?_
          refine lv_goto (tgt := 32) hx hb dX10_isManOf_28 (by decide) ?_
          exact W.zret (v := 1) hx hb hr (by decide) (fun t ht hW => ⟨1, rfl, (show 0 ≤ (1 : Int32).toInt ∧ (1 : Int32).toInt ≤ 1 from by decide), ht⟩) (fun _ h => by cases h) dX10_isManOf_32
      · skip
        refine lv_iload_n hx hb dX10_isManOf_23 rfl (lv_at hl 2 rfl) ?_
        refine lv_icmp_ne (tgt := 31) hx hb dX10_isManOf_24 (by decide) (fun c_19 => ?_) (fun c_19 => ?_)
        · skip
          have b_21 := i32_bd p1
          have k_20 := kk_ne zi_m1 rfl c_19
          refine lv_iconst (v := 0) hx hb dX10_isManOf_31 (by decide) ?_
          exact W.zret (v := 0) hx hb hr (by decide) (fun t ht hW => ⟨0, rfl, (show 0 ≤ (0 : Int32).toInt ∧ (0 : Int32).toInt ≤ 1 from by decide), ht⟩) (fun _ h => by cases h) dX10_isManOf_32
        · skip
          have b_23 := i32_bd p1
          have k_22 := kk_eq zi_m1 rfl c_19
          refine lv_iconst (v := 1) hx hb dX10_isManOf_27 (by decide) ?_
          refine lv_goto (tgt := 32) hx hb dX10_isManOf_28 (by decide) ?_
          exact W.zret (v := 1) hx hb hr (by decide) (fun t ht hW => ⟨1, rfl, (show 0 ≤ (1 : Int32).toInt ∧ (1 : Int32).toInt ≤ 1 from by decide), ht⟩) (fun _ h => by cases h) dX10_isManOf_32
set_option maxHeartbeats 8000000 in
set_option maxRecDepth 100000 in
theorem g_X10_wearyHold (l : Launch) (D : va_G) (cA : Nat → ClassId) (h0 : Nat) (we_fitting : Int32) (we_qfitted : Nat) (we_qsharing : Nat) (g : Nat) (sl : Nat) (g_odds : Int32) (g_pot : Int32) (g_lines : Int32) (g_men : Int32) (g_clauses : Int32) (g_winds : Int32) (g_far0 : Int32) (g_far1 : Int32) (g_qsides : Nat) (g_qgrips : Nat) (g_qwits : Nat) (g_qsays : Nat) (g_qgives0 : Nat) (g_qgives1 : Nat) (g_qfroms : Nat) (g_qtos : Nat) (g_cgrips : Nat → Int32) (g_cwits : Nat → Int32) (p0 : Int32) (p1 : Int32) (p2 : Int32) (p3 : Int32) (h_g_odds : -999 ≤ (g_odds : Int32).toInt ∧ (g_odds : Int32).toInt ≤ 999) (h_g_pot : -999 ≤ (g_pot : Int32).toInt ∧ (g_pot : Int32).toInt ≤ 999) (h_g_men : 0 ≤ (g_men : Int32).toInt ∧ (g_men : Int32).toInt ≤ 8) (h_g_clauses : 0 ≤ (g_clauses : Int32).toInt ∧ (g_clauses : Int32).toInt ≤ 7) (h_g_winds : 0 ≤ (g_winds : Int32).toInt ∧ (g_winds : Int32).toInt ≤ 4) (h_g_far0 : -999 ≤ (g_far0 : Int32).toInt ∧ (g_far0 : Int32).toInt ≤ 999) (h_g_far1 : -999 ≤ (g_far1 : Int32).toInt ∧ (g_far1 : Int32).toInt ≤ 999) : Met l yX10_wearyHold (Cond.code yX10_wearyHold cX10_wearyHold 7 (some .int) :: TB) (rmd 2 0 0) (PP D cA [(h0, .inr (10, [.int we_fitting, .ref we_qfitted, .ref we_qsharing, .ref g, .ref sl])), (g, .inr (3, [.int g_odds, .int g_pot, .int g_lines, .int g_men, .int g_clauses, .int g_winds, .int g_far0, .int g_far1, .ref g_qsides, .ref g_qgrips, .ref g_qwits, .ref g_qsays, .ref g_qgives0, .ref g_qgives1, .ref g_qfroms, .ref g_qtos])), (g_qgrips, .inl (cA 1, 8, .inl g_cgrips)), (g_qwits, .inl (cA 1, 8, .inl g_cwits))] [.ref h0, .int p0, .int p1, .int p2, .int p3]) (vp_Si (fun r => True)) 0 0 (fun _ => False) := by
  refine Met.ofW (cc := cX10_wearyHold) (maxL := 7) (ret := (some .int)) (by decide) rfl ?_
  intro p e s m args below meth c s₁ B hml hv
  obtain ⟨rfl, hP, hKN⟩ := hv
  have hx := B.exec
  have hb := B.bytes
  have hr := B.returns
  have hts : ∀ w ∈ TB, w.before _ s = true := fun w h => atoms_spec B.pre w (List.mem_cons_of_mem _ h)
  have hown : s.vm.findClass RX10 = some m.cls := findClass_of_methodNamed B.named
  have hlocks := B.notSynchronized
  have hl := lv_entry ([.ref h0, .int p0, .int p1, .int p2, .int p3]) (n := 7) (Nat.le_of_ble_eq_true rfl)
  rw [lg_entry_eq]
  generalize (lg_sl ([.ref h0, .int p0, .int p1, .int p2, .int p3]) ++ List.replicate (7 - (lg_sl ([.ref h0, .int p0, .int p1, .int p2, .int p3])).length) Slot.unset).toArray = ls at hl ⊢
  have hl : lv_has ls 7 [(0, .ref h0), (1, .int p0), (2, .int p1), (3, .int p2), (4, .int p3)] := hl
  refine lv_aload_n hx hb dX10_wearyHold_0 rfl (lv_at hl 0 rfl) ?_
  refine va_get (D := D) (ci := 10) (v := .ref g) (C := RX10) (T := TX10) (N := 5) hx hb hts inX10 hown hKN.1 hP 0 rfl rfl 3 (by decide) (hts _ tw_451) (fun _ h9 => h9) rfl dX10_wearyHold_1 ?_
  refine lv_iload_n hx hb dX10_wearyHold_4 rfl (lv_at hl 1 rfl) ?_
  refine cpVi (rest := []) ⟨hx, hb, hml, hown, hts⟩ hKN (hP.sub (ws' := [(g, .inr (3, [.int g_odds, .int g_pot, .int g_lines, .int g_men, .int g_clauses, .int g_winds, .int g_far0, .int g_far1, .ref g_qsides, .ref g_qgrips, .ref g_qwits, .ref g_qsays, .ref g_qgives0, .ref g_qgives1, .ref g_qfroms, .ref g_qtos])), (g_qgrips, .inl (cA 1, 8, .inl g_cgrips))]) [1, 2] rfl) (g_X3_gripOf l D cA g g_odds g_pot g_lines g_men g_clauses g_winds g_far0 g_far1 g_qsides g_qgrips g_qwits g_qsays g_qgives0 g_qgives1 g_qfroms g_qtos g_cgrips p0 (by omega) (by omega) (by omega) (by omega) (by omega) (by omega) (by omega)) (tb_V tw_1204 tw_708 tw_709 tw_104 tw_710) hdX3_gripOf ⟨rfl, rfl, Nat.le_of_ble_eq_true rfl, Nat.le_of_ble_eq_true rfl⟩ ⟨Nat.le_of_ble_eq_true rfl, Nat.le_of_ble_eq_true rfl⟩ rfl rfl rfl hl.1 rfl (Nat.le_of_ble_eq_true rfl) dX10_wearyHold_5 (fun r_1 hr_1 => ?_)
  refine lv_iload_n hx hb dX10_wearyHold_8 rfl (lv_at hl 1 rfl) ?_
  refine lv_iload_n hx hb dX10_wearyHold_9 rfl (lv_at hl 3 rfl) ?_
  refine lv_icmp_ne (tgt := 18) hx hb dX10_wearyHold_10 (by decide) (fun c_2 => ?_) (fun c_2 => ?_)
  · skip
    have b_4 := i32_bd p0
    have b_5 := i32_bd p2
    have k_3 := kk_ne rfl rfl c_2
    refine lv_iconst (v := 0) hx hb dX10_wearyHold_18 (by decide) ?_
    refine lv_isub hx hb dX10_wearyHold_19 ?_
    refine lv_topi (fun x_6 ex_6 => ?_)
    have b_8 := i32_bd r_1
    have k_7 := ar_sub rfl zi_0 ex_6 (by omega) (by omega)
    refine lv_istore (lv' := [(5, .int x_6), (0, .ref h0), (1, .int p0), (2, .int p1), (3, .int p2), (4, .int p3)]) hx hb dX10_wearyHold_20 hl (by decide) rfl (fun ls hl => ?_)
    refine lv_aload_n hx hb dX10_wearyHold_22 rfl (lv_at hl 1 rfl) ?_
    refine va_get (D := D) (ci := 10) (v := .ref g) (C := RX10) (T := TX10) (N := 5) hx hb hts inX10 hown hKN.1 hP 0 rfl rfl 3 (by decide) (hts _ tw_451) (fun _ h9 => h9) rfl dX10_wearyHold_23 ?_
    refine lv_iload_n hx hb dX10_wearyHold_26 rfl (lv_at hl 3 rfl) ?_
    refine cpVi (rest := []) ⟨hx, hb, hml, hown, hts⟩ hKN (hP.sub (ws' := [(g, .inr (3, [.int g_odds, .int g_pot, .int g_lines, .int g_men, .int g_clauses, .int g_winds, .int g_far0, .int g_far1, .ref g_qsides, .ref g_qgrips, .ref g_qwits, .ref g_qsays, .ref g_qgives0, .ref g_qgives1, .ref g_qfroms, .ref g_qtos])), (g_qgrips, .inl (cA 1, 8, .inl g_cgrips))]) [1, 2] rfl) (g_X3_gripOf l D cA g g_odds g_pot g_lines g_men g_clauses g_winds g_far0 g_far1 g_qsides g_qgrips g_qwits g_qsays g_qgives0 g_qgives1 g_qfroms g_qtos g_cgrips p1 (by omega) (by omega) (by omega) (by omega) (by omega) (by omega) (by omega)) (tb_V tw_1204 tw_708 tw_709 tw_104 tw_710) hdX3_gripOf ⟨rfl, rfl, Nat.le_of_ble_eq_true rfl, Nat.le_of_ble_eq_true rfl⟩ ⟨Nat.le_of_ble_eq_true rfl, Nat.le_of_ble_eq_true rfl⟩ rfl rfl rfl hl.1 rfl (Nat.le_of_ble_eq_true rfl) dX10_wearyHold_27 (fun r_9 hr_9 => ?_)
    refine lv_iload_n hx hb dX10_wearyHold_30 rfl (lv_at hl 3 rfl) ?_
    refine lv_iload_n hx hb dX10_wearyHold_31 rfl (lv_at hl 4 rfl) ?_
    refine lv_icmp_ne (tgt := 40) hx hb dX10_wearyHold_32 (by decide) (fun c_10 => ?_) (fun c_10 => ?_)
    · skip
      have b_12 := i32_bd p1
      have k_11 := kk_ne rfl rfl c_10
      refine lv_iconst (v := 0) hx hb dX10_wearyHold_40 (by decide) ?_
      refine lv_isub hx hb dX10_wearyHold_41 ?_
      refine lv_topi (fun x_13 ex_13 => ?_)
      have b_15 := i32_bd r_9
      have k_14 := ar_sub rfl zi_0 ex_13 (by omega) (by omega)
      refine lv_istore (lv' := [(6, .int x_13), (5, .int x_6), (0, .ref h0), (1, .int p0), (2, .int p1), (3, .int p2), (4, .int p3)]) hx hb dX10_wearyHold_42 hl (by decide) rfl (fun ls hl => ?_)
      refine lv_aload_n hx hb dX10_wearyHold_44 rfl (lv_at hl 2 rfl) ?_
      refine va_get (D := D) (ci := 10) (v := .ref g) (C := RX10) (T := TX10) (N := 5) hx hb hts inX10 hown hKN.1 hP 0 rfl rfl 3 (by decide) (hts _ tw_451) (fun _ h9 => h9) rfl dX10_wearyHold_45 ?_
      refine lv_iload_n hx hb dX10_wearyHold_48 rfl (lv_at hl 3 rfl) ?_
      refine lv_iload_n hx hb dX10_wearyHold_49 rfl (lv_at hl 4 rfl) ?_
      refine lv_iload hx hb dX10_wearyHold_50 (lv_at hl 1 rfl) ?_
      refine lv_iload hx hb dX10_wearyHold_52 (lv_at hl 0 rfl) ?_
      refine cpVi (rest := []) ⟨hx, hb, hml, hown, hts⟩ hKN (hP.sub (ws' := [(g, .inr (3, [.int g_odds, .int g_pot, .int g_lines, .int g_men, .int g_clauses, .int g_winds, .int g_far0, .int g_far1, .ref g_qsides, .ref g_qgrips, .ref g_qwits, .ref g_qsays, .ref g_qgives0, .ref g_qgives1, .ref g_qfroms, .ref g_qtos])), (g_qwits, .inl (cA 1, 8, .inl g_cwits))]) [1, 3] rfl) (g_X3_holdByGrips l D cA g g_odds g_pot g_lines g_men g_clauses g_winds g_far0 g_far1 g_qsides g_qgrips g_qwits g_qsays g_qgives0 g_qgives1 g_qfroms g_qtos g_cwits p0 p1 x_6 x_13 (by omega) (by omega) (by omega) (by omega) (by omega) (by omega) (by omega)) (tb_V tw_1210 tw_848 tw_849 tw_104 tw_850) hdX3_holdByGrips ⟨rfl, rfl, Nat.le_of_ble_eq_true rfl, Nat.le_of_ble_eq_true rfl⟩ ⟨Nat.le_of_ble_eq_true rfl, Nat.le_of_ble_eq_true rfl⟩ rfl rfl rfl hl.1 rfl (Nat.le_of_ble_eq_true rfl) dX10_wearyHold_54 (fun r_16 hr_16 => ?_)
      exact W.iret (v := r_16) hx hb hr (fun t ht hW => ⟨r_16, rfl, trivial, ht⟩) (fun _ h => by cases h) dX10_wearyHold_57
    · skip
      have b_18 := i32_bd p1
      have k_17 := kk_eq rfl rfl c_10
      refine lv_iload hx hb dX10_wearyHold_35 (lv_at hl 5 rfl) ?_
      refine lv_goto (tgt := 41) hx hb dX10_wearyHold_37 (by decide) ?_
      refine lv_isub hx hb dX10_wearyHold_41 ?_
      refine lv_topi (fun x_19 ex_19 => ?_)
      refine lv_istore (lv' := [(6, .int x_19), (5, .int x_6), (0, .ref h0), (1, .int p0), (2, .int p1), (3, .int p2), (4, .int p3)]) hx hb dX10_wearyHold_42 hl (by decide) rfl (fun ls hl => ?_)
      refine lv_aload_n hx hb dX10_wearyHold_44 rfl (lv_at hl 2 rfl) ?_
      refine va_get (D := D) (ci := 10) (v := .ref g) (C := RX10) (T := TX10) (N := 5) hx hb hts inX10 hown hKN.1 hP 0 rfl rfl 3 (by decide) (hts _ tw_451) (fun _ h9 => h9) rfl dX10_wearyHold_45 ?_
      refine lv_iload_n hx hb dX10_wearyHold_48 rfl (lv_at hl 3 rfl) ?_
      refine lv_iload_n hx hb dX10_wearyHold_49 rfl (lv_at hl 4 rfl) ?_
      refine lv_iload hx hb dX10_wearyHold_50 (lv_at hl 1 rfl) ?_
      refine lv_iload hx hb dX10_wearyHold_52 (lv_at hl 0 rfl) ?_
      refine cpVi (rest := []) ⟨hx, hb, hml, hown, hts⟩ hKN (hP.sub (ws' := [(g, .inr (3, [.int g_odds, .int g_pot, .int g_lines, .int g_men, .int g_clauses, .int g_winds, .int g_far0, .int g_far1, .ref g_qsides, .ref g_qgrips, .ref g_qwits, .ref g_qsays, .ref g_qgives0, .ref g_qgives1, .ref g_qfroms, .ref g_qtos])), (g_qwits, .inl (cA 1, 8, .inl g_cwits))]) [1, 3] rfl) (g_X3_holdByGrips l D cA g g_odds g_pot g_lines g_men g_clauses g_winds g_far0 g_far1 g_qsides g_qgrips g_qwits g_qsays g_qgives0 g_qgives1 g_qfroms g_qtos g_cwits p0 p1 x_6 x_19 (by omega) (by omega) (by omega) (by omega) (by omega) (by omega) (by omega)) (tb_V tw_1210 tw_848 tw_849 tw_104 tw_850) hdX3_holdByGrips ⟨rfl, rfl, Nat.le_of_ble_eq_true rfl, Nat.le_of_ble_eq_true rfl⟩ ⟨Nat.le_of_ble_eq_true rfl, Nat.le_of_ble_eq_true rfl⟩ rfl rfl rfl hl.1 rfl (Nat.le_of_ble_eq_true rfl) dX10_wearyHold_54 (fun r_21 hr_21 => ?_)
      exact W.iret (v := r_21) hx hb hr (fun t ht hW => ⟨r_21, rfl, trivial, ht⟩) (fun _ h => by cases h) dX10_wearyHold_57
  · skip
    have b_23 := i32_bd p0
    have b_24 := i32_bd p2
    have k_22 := kk_eq rfl rfl c_2
    refine lv_iload hx hb dX10_wearyHold_13 (lv_at hl 4 rfl) ?_
    refine lv_goto (tgt := 19) hx hb dX10_wearyHold_15 (by decide) ?_
    refine lv_isub hx hb dX10_wearyHold_19 ?_
    refine lv_topi (fun x_25 ex_25 => ?_)
    refine lv_istore (lv' := [(5, .int x_25), (0, .ref h0), (1, .int p0), (2, .int p1), (3, .int p2), (4, .int p3)]) hx hb dX10_wearyHold_20 hl (by decide) rfl (fun ls hl => ?_)
    refine lv_aload_n hx hb dX10_wearyHold_22 rfl (lv_at hl 1 rfl) ?_
    refine va_get (D := D) (ci := 10) (v := .ref g) (C := RX10) (T := TX10) (N := 5) hx hb hts inX10 hown hKN.1 hP 0 rfl rfl 3 (by decide) (hts _ tw_451) (fun _ h9 => h9) rfl dX10_wearyHold_23 ?_
    refine lv_iload_n hx hb dX10_wearyHold_26 rfl (lv_at hl 3 rfl) ?_
    refine cpVi (rest := []) ⟨hx, hb, hml, hown, hts⟩ hKN (hP.sub (ws' := [(g, .inr (3, [.int g_odds, .int g_pot, .int g_lines, .int g_men, .int g_clauses, .int g_winds, .int g_far0, .int g_far1, .ref g_qsides, .ref g_qgrips, .ref g_qwits, .ref g_qsays, .ref g_qgives0, .ref g_qgives1, .ref g_qfroms, .ref g_qtos])), (g_qgrips, .inl (cA 1, 8, .inl g_cgrips))]) [1, 2] rfl) (g_X3_gripOf l D cA g g_odds g_pot g_lines g_men g_clauses g_winds g_far0 g_far1 g_qsides g_qgrips g_qwits g_qsays g_qgives0 g_qgives1 g_qfroms g_qtos g_cgrips p1 (by omega) (by omega) (by omega) (by omega) (by omega) (by omega) (by omega)) (tb_V tw_1204 tw_708 tw_709 tw_104 tw_710) hdX3_gripOf ⟨rfl, rfl, Nat.le_of_ble_eq_true rfl, Nat.le_of_ble_eq_true rfl⟩ ⟨Nat.le_of_ble_eq_true rfl, Nat.le_of_ble_eq_true rfl⟩ rfl rfl rfl hl.1 rfl (Nat.le_of_ble_eq_true rfl) dX10_wearyHold_27 (fun r_27 hr_27 => ?_)
    refine lv_iload_n hx hb dX10_wearyHold_30 rfl (lv_at hl 3 rfl) ?_
    refine lv_iload_n hx hb dX10_wearyHold_31 rfl (lv_at hl 4 rfl) ?_
    refine lv_icmp_ne (tgt := 40) hx hb dX10_wearyHold_32 (by decide) (fun c_28 => ?_) (fun c_28 => ?_)
    · skip
      have b_30 := i32_bd p1
      have k_29 := kk_ne rfl rfl c_28
      refine lv_iconst (v := 0) hx hb dX10_wearyHold_40 (by decide) ?_
      refine lv_isub hx hb dX10_wearyHold_41 ?_
      refine lv_topi (fun x_31 ex_31 => ?_)
      have b_33 := i32_bd r_27
      have k_32 := ar_sub rfl zi_0 ex_31 (by omega) (by omega)
      refine lv_istore (lv' := [(6, .int x_31), (5, .int x_25), (0, .ref h0), (1, .int p0), (2, .int p1), (3, .int p2), (4, .int p3)]) hx hb dX10_wearyHold_42 hl (by decide) rfl (fun ls hl => ?_)
      refine lv_aload_n hx hb dX10_wearyHold_44 rfl (lv_at hl 2 rfl) ?_
      refine va_get (D := D) (ci := 10) (v := .ref g) (C := RX10) (T := TX10) (N := 5) hx hb hts inX10 hown hKN.1 hP 0 rfl rfl 3 (by decide) (hts _ tw_451) (fun _ h9 => h9) rfl dX10_wearyHold_45 ?_
      refine lv_iload_n hx hb dX10_wearyHold_48 rfl (lv_at hl 3 rfl) ?_
      refine lv_iload_n hx hb dX10_wearyHold_49 rfl (lv_at hl 4 rfl) ?_
      refine lv_iload hx hb dX10_wearyHold_50 (lv_at hl 1 rfl) ?_
      refine lv_iload hx hb dX10_wearyHold_52 (lv_at hl 0 rfl) ?_
      refine cpVi (rest := []) ⟨hx, hb, hml, hown, hts⟩ hKN (hP.sub (ws' := [(g, .inr (3, [.int g_odds, .int g_pot, .int g_lines, .int g_men, .int g_clauses, .int g_winds, .int g_far0, .int g_far1, .ref g_qsides, .ref g_qgrips, .ref g_qwits, .ref g_qsays, .ref g_qgives0, .ref g_qgives1, .ref g_qfroms, .ref g_qtos])), (g_qwits, .inl (cA 1, 8, .inl g_cwits))]) [1, 3] rfl) (g_X3_holdByGrips l D cA g g_odds g_pot g_lines g_men g_clauses g_winds g_far0 g_far1 g_qsides g_qgrips g_qwits g_qsays g_qgives0 g_qgives1 g_qfroms g_qtos g_cwits p0 p1 x_25 x_31 (by omega) (by omega) (by omega) (by omega) (by omega) (by omega) (by omega)) (tb_V tw_1210 tw_848 tw_849 tw_104 tw_850) hdX3_holdByGrips ⟨rfl, rfl, Nat.le_of_ble_eq_true rfl, Nat.le_of_ble_eq_true rfl⟩ ⟨Nat.le_of_ble_eq_true rfl, Nat.le_of_ble_eq_true rfl⟩ rfl rfl rfl hl.1 rfl (Nat.le_of_ble_eq_true rfl) dX10_wearyHold_54 (fun r_34 hr_34 => ?_)
      exact W.iret (v := r_34) hx hb hr (fun t ht hW => ⟨r_34, rfl, trivial, ht⟩) (fun _ h => by cases h) dX10_wearyHold_57
    · skip
      have b_36 := i32_bd p1
      have k_35 := kk_eq rfl rfl c_28
      refine lv_iload hx hb dX10_wearyHold_35 (lv_at hl 5 rfl) ?_
      refine lv_goto (tgt := 41) hx hb dX10_wearyHold_37 (by decide) ?_
      refine lv_isub hx hb dX10_wearyHold_41 ?_
      refine lv_topi (fun x_37 ex_37 => ?_)
      refine lv_istore (lv' := [(6, .int x_37), (5, .int x_25), (0, .ref h0), (1, .int p0), (2, .int p1), (3, .int p2), (4, .int p3)]) hx hb dX10_wearyHold_42 hl (by decide) rfl (fun ls hl => ?_)
      refine lv_aload_n hx hb dX10_wearyHold_44 rfl (lv_at hl 2 rfl) ?_
      refine va_get (D := D) (ci := 10) (v := .ref g) (C := RX10) (T := TX10) (N := 5) hx hb hts inX10 hown hKN.1 hP 0 rfl rfl 3 (by decide) (hts _ tw_451) (fun _ h9 => h9) rfl dX10_wearyHold_45 ?_
      refine lv_iload_n hx hb dX10_wearyHold_48 rfl (lv_at hl 3 rfl) ?_
      refine lv_iload_n hx hb dX10_wearyHold_49 rfl (lv_at hl 4 rfl) ?_
      refine lv_iload hx hb dX10_wearyHold_50 (lv_at hl 1 rfl) ?_
      refine lv_iload hx hb dX10_wearyHold_52 (lv_at hl 0 rfl) ?_
      refine cpVi (rest := []) ⟨hx, hb, hml, hown, hts⟩ hKN (hP.sub (ws' := [(g, .inr (3, [.int g_odds, .int g_pot, .int g_lines, .int g_men, .int g_clauses, .int g_winds, .int g_far0, .int g_far1, .ref g_qsides, .ref g_qgrips, .ref g_qwits, .ref g_qsays, .ref g_qgives0, .ref g_qgives1, .ref g_qfroms, .ref g_qtos])), (g_qwits, .inl (cA 1, 8, .inl g_cwits))]) [1, 3] rfl) (g_X3_holdByGrips l D cA g g_odds g_pot g_lines g_men g_clauses g_winds g_far0 g_far1 g_qsides g_qgrips g_qwits g_qsays g_qgives0 g_qgives1 g_qfroms g_qtos g_cwits p0 p1 x_25 x_37 (by omega) (by omega) (by omega) (by omega) (by omega) (by omega) (by omega)) (tb_V tw_1210 tw_848 tw_849 tw_104 tw_850) hdX3_holdByGrips ⟨rfl, rfl, Nat.le_of_ble_eq_true rfl, Nat.le_of_ble_eq_true rfl⟩ ⟨Nat.le_of_ble_eq_true rfl, Nat.le_of_ble_eq_true rfl⟩ rfl rfl rfl hl.1 rfl (Nat.le_of_ble_eq_true rfl) dX10_wearyHold_54 (fun r_39 hr_39 => ?_)
      exact W.iret (v := r_39) hx hb hr (fun t ht hW => ⟨r_39, rfl, trivial, ht⟩) (fun _ h => by cases h) dX10_wearyHold_57
set_option maxHeartbeats 8000000 in
set_option maxRecDepth 100000 in
theorem g_X10_agrees (l : Launch) (D : va_G) (cA : Nat → ClassId) (h0 : Nat) (we_fitting : Int32) (we_qfitted : Nat) (we_qsharing : Nat) (g : Nat) (sl : Nat) (g_odds : Int32) (g_pot : Int32) (g_lines : Int32) (g_men : Int32) (g_clauses : Int32) (g_winds : Int32) (g_far0 : Int32) (g_far1 : Int32) (g_qsides : Nat) (g_qgrips : Nat) (g_qwits : Nat) (g_qsays : Nat) (g_qgives0 : Nat) (g_qgives1 : Nat) (g_qfroms : Nat) (g_qtos : Nat) (g_cgrips : Nat → Int32) (g_cwits : Nat → Int32) (s_qsizes : Nat) (s_qwidths : Nat) (s_qnumbers : Nat) (s_csizes : Nat → Int32) (s_cnumbers : Nat → Int64) (p0 : Int32) (p1 : Int32) (p2 : Int32) (h_g_odds : -999 ≤ (g_odds : Int32).toInt ∧ (g_odds : Int32).toInt ≤ 999) (h_g_pot : -999 ≤ (g_pot : Int32).toInt ∧ (g_pot : Int32).toInt ≤ 999) (h_g_men : 0 ≤ (g_men : Int32).toInt ∧ (g_men : Int32).toInt ≤ 8) (h_g_clauses : 0 ≤ (g_clauses : Int32).toInt ∧ (g_clauses : Int32).toInt ≤ 7) (h_g_winds : 0 ≤ (g_winds : Int32).toInt ∧ (g_winds : Int32).toInt ≤ 4) (h_g_far0 : -999 ≤ (g_far0 : Int32).toInt ∧ (g_far0 : Int32).toInt ≤ 999) (h_g_far1 : -999 ≤ (g_far1 : Int32).toInt ∧ (g_far1 : Int32).toInt ≤ 999) (a_s_csizes_0 : AR (-1) 60 s_csizes) : Met l yX10_agrees (Cond.code yX10_agrees cX10_agrees 7 (some .boolean) :: TB) (rmd 3 0 0) (PP D cA [(h0, .inr (10, [.int we_fitting, .ref we_qfitted, .ref we_qsharing, .ref g, .ref sl])), (g, .inr (3, [.int g_odds, .int g_pot, .int g_lines, .int g_men, .int g_clauses, .int g_winds, .int g_far0, .int g_far1, .ref g_qsides, .ref g_qgrips, .ref g_qwits, .ref g_qsays, .ref g_qgives0, .ref g_qgives1, .ref g_qfroms, .ref g_qtos])), (g_qgrips, .inl (cA 1, 8, .inl g_cgrips)), (g_qwits, .inl (cA 1, 8, .inl g_cwits)), (sl, .inr (7, [.ref s_qsizes, .ref s_qwidths, .ref s_qnumbers])), (s_qsizes, .inl (cA 1, 4, .inl s_csizes)), (s_qnumbers, .inl (cA 2, 240, .inr (.inl s_cnumbers)))] [.ref h0, .int p0, .int p1, .int p2]) (vp_Si (fun r => 0 ≤ r.toInt ∧ r.toInt ≤ 1)) 0 0 (fun _ => False) := by
  refine Met.ofW (cc := cX10_agrees) (maxL := 7) (ret := (some .boolean)) (by decide) rfl ?_
  intro p e s m args below meth c s₁ B hml hv
  obtain ⟨rfl, hP, hKN⟩ := hv
  have hx := B.exec
  have hb := B.bytes
  have hr := B.returns
  have hts : ∀ w ∈ TB, w.before _ s = true := fun w h => atoms_spec B.pre w (List.mem_cons_of_mem _ h)
  have hown : s.vm.findClass RX10 = some m.cls := findClass_of_methodNamed B.named
  have hlocks := B.notSynchronized
  have hl := lv_entry ([.ref h0, .int p0, .int p1, .int p2]) (n := 7) (Nat.le_of_ble_eq_true rfl)
  rw [lg_entry_eq]
  generalize (lg_sl ([.ref h0, .int p0, .int p1, .int p2]) ++ List.replicate (7 - (lg_sl ([.ref h0, .int p0, .int p1, .int p2])).length) Slot.unset).toArray = ls at hl ⊢
  have hl : lv_has ls 7 [(0, .ref h0), (1, .int p0), (2, .int p1), (3, .int p2)] := hl
  refine lv_iload_n hx hb dX10_agrees_0 rfl (lv_at hl 3 rfl) ?_
  refine lv_iconst (v := 1) hx hb dX10_agrees_1 (by decide) ?_
  refine lv_aload_n hx hb dX10_agrees_2 rfl (lv_at hl 0 rfl) ?_
  refine va_get (D := D) (ci := 10) (v := .ref g) (C := RX10) (T := TX10) (N := 5) hx hb hts inX10 hown hKN.1 hP 0 rfl rfl 3 (by decide) (hts _ tw_451) (fun _ h9 => h9) rfl dX10_agrees_3 ?_
  refine lv_iload_n hx hb dX10_agrees_6 rfl (lv_at hl 2 rfl) ?_
  refine cpVi (rest := [.int 1, .int p2]) ⟨hx, hb, hml, hown, hts⟩ hKN (hP.sub (ws' := [(g, .inr (3, [.int g_odds, .int g_pot, .int g_lines, .int g_men, .int g_clauses, .int g_winds, .int g_far0, .int g_far1, .ref g_qsides, .ref g_qgrips, .ref g_qwits, .ref g_qsays, .ref g_qgives0, .ref g_qgives1, .ref g_qfroms, .ref g_qtos])), (g_qgrips, .inl (cA 1, 8, .inl g_cgrips))]) [1, 2] rfl) (g_X3_gripOf l D cA g g_odds g_pot g_lines g_men g_clauses g_winds g_far0 g_far1 g_qsides g_qgrips g_qwits g_qsays g_qgives0 g_qgives1 g_qfroms g_qtos g_cgrips p1 (by omega) (by omega) (by omega) (by omega) (by omega) (by omega) (by omega)) (tb_V tw_1204 tw_708 tw_709 tw_104 tw_710) hdX3_gripOf ⟨rfl, rfl, Nat.le_of_ble_eq_true rfl, Nat.le_of_ble_eq_true rfl⟩ ⟨Nat.le_of_ble_eq_true rfl, Nat.le_of_ble_eq_true rfl⟩ rfl rfl rfl hl.1 rfl (Nat.le_of_ble_eq_true rfl) dX10_agrees_7 (fun r_1 hr_1 => ?_)
  refine lv_iconst (v := 1) hx hb dX10_agrees_10 (by decide) ?_
  refine lv_isub hx hb dX10_agrees_11 ?_
  refine lv_topi (fun x_2 ex_2 => ?_)
  have z_4 := zi_1
  refine cpSNi (rest := []) ⟨hx, hb, hml, hown, hts⟩ hKN (hP.sub (ws' := []) [] rfl) (g_X11_isWithin l D cA p2 1 x_2) ⟨nw_12, tw_516, tw_101, tw_517⟩ hdX11_isWithin ⟨rfl, rfl, Nat.le_of_ble_eq_true rfl, Nat.le_of_ble_eq_true rfl⟩ ⟨Nat.le_of_ble_eq_true rfl, Nat.le_of_ble_eq_true rfl⟩ rfl hl.1 rfl (Nat.le_of_ble_eq_true rfl) dX10_agrees_12 (fun r_5 hr_5 => ?_)
  rcases hr_5 with ⟨k_5_0_0, k_5_0_1, rfl⟩ | ⟨k_5_1_0, rfl⟩
  · skip
    refine lv_if_ne (tgt := 20) hx hb dX10_agrees_15 (by decide) (fun c_6 => ?_) (fun c_6 => absurd c_6 (by decide))
    refine lv_iconst (v := 0) hx hb dX10_agrees_20 (by decide) ?_
    refine lv_istore (lv' := [(4, .int 0), (0, .ref h0), (1, .int p0), (2, .int p1), (3, .int p2)]) hx hb dX10_agrees_21 hl (by decide) rfl (fun ls hl => ?_)
    refine loopW (σ := Int32) (fun _ => []) (fun L4_137 H locs ls => (0 ≤ L4_137.toInt ∧ L4_137.toInt ≤ 62) ∧ H = s.heap ∧ locs = [] ∧ lv_has ls 7 [(4, .int L4_137), (0, .ref h0), (1, .int p0), (2, .int p1), (3, .int p2)]) (fun L4_137 => (2147483647 - L4_137.toInt).toNat) ?_ (0 : Int32) ⟨(by decide), rfl, rfl, hl⟩
    intro x_137 H locs ls hI_137 ih_137
    obtain ⟨L4_137, rfl⟩ : ∃ z, z = x_137 := ⟨_, rfl⟩
    obtain ⟨k0_137, rfl, rfl, hl⟩ := hI_137
    have hl : lv_has ls 7 [(4, .int L4_137), (0, .ref h0), (1, .int p0), (2, .int p1), (3, .int p2)] := hl
    refine lv_iload hx hb dX10_agrees_23 (lv_at hl 0 rfl) ?_
    refine lv_aload_n hx hb dX10_agrees_25 rfl (lv_at hl 1 rfl) ?_
    refine va_get (D := D) (ci := 10) (v := .ref sl) (C := RX10) (T := TX10) (N := 5) hx hb hts inX10 hown hKN.1 hP 0 rfl rfl 4 (by decide) (hts _ tw_452) (fun _ h9 => h9) rfl dX10_agrees_26 ?_
    refine lv_iload_n hx hb dX10_agrees_29 rfl (lv_at hl 2 rfl) ?_
    refine cpVi (rest := [.int L4_137]) ⟨hx, hb, hml, hown, hts⟩ hKN (hP.sub (ws' := [(sl, .inr (7, [.ref s_qsizes, .ref s_qwidths, .ref s_qnumbers])), (s_qsizes, .inl (cA 1, 4, .inl s_csizes))]) [4, 5] rfl) (g_X7_sizeOf l D cA sl s_qsizes s_qwidths s_qnumbers s_csizes p0 a_s_csizes_0) (tb_V tw_1187 tw_947 tw_948 tw_107 tw_949) hdX7_sizeOf ⟨rfl, rfl, Nat.le_of_ble_eq_true rfl, Nat.le_of_ble_eq_true rfl⟩ ⟨Nat.le_of_ble_eq_true rfl, Nat.le_of_ble_eq_true rfl⟩ rfl rfl rfl hl.1 rfl (Nat.le_of_ble_eq_true rfl) dX10_agrees_30 (fun r_138 hr_138 => ?_)
    refine lv_icmp_ge (tgt := 99) hx hb dX10_agrees_33 (by decide) (fun c_139 => ?_) (fun c_139 => ?_)
    · skip
      have k_140 := kk_le rfl rfl c_139
      refine lv_iconst (v := 1) hx hb dX10_agrees_99 (by decide) ?_
      exact W.zret (v := 1) hx hb hr (by decide) (fun t ht hW => ⟨1, rfl, (show 0 ≤ (1 : Int32).toInt ∧ (1 : Int32).toInt ≤ 1 from by decide), ht⟩) (fun _ h => by cases h) dX10_agrees_100
    · skip
      have k_141 := kk_nle rfl rfl c_139
      refine lv_aload_n hx hb dX10_agrees_36 rfl (lv_at hl 1 rfl) ?_
      refine va_get (D := D) (ci := 10) (v := .ref sl) (C := RX10) (T := TX10) (N := 5) hx hb hts inX10 hown hKN.1 hP 0 rfl rfl 4 (by decide) (hts _ tw_452) (fun _ h9 => h9) rfl dX10_agrees_37 ?_
      refine lv_iload_n hx hb dX10_agrees_40 rfl (lv_at hl 2 rfl) ?_
      refine lv_iload hx hb dX10_agrees_41 (lv_at hl 0 rfl) ?_
      refine cpVl (rest := []) ⟨hx, hb, hml, hown, hts⟩ hKN (hP.sub (ws' := [(sl, .inr (7, [.ref s_qsizes, .ref s_qwidths, .ref s_qnumbers])), (s_qsizes, .inl (cA 1, 4, .inl s_csizes)), (s_qnumbers, .inl (cA 2, 240, .inr (.inl s_cnumbers)))]) [4, 5, 6] rfl) (g_X7_numberAt l D cA sl s_qsizes s_qwidths s_qnumbers s_csizes s_cnumbers p0 L4_137 a_s_csizes_0) (tb_V tw_1188 tw_957 tw_958 tw_107 tw_959) hdX7_numberAt ⟨rfl, rfl, Nat.le_of_ble_eq_true rfl, Nat.le_of_ble_eq_true rfl⟩ ⟨Nat.le_of_ble_eq_true rfl, Nat.le_of_ble_eq_true rfl⟩ rfl rfl rfl hl.1 rfl (Nat.le_of_ble_eq_true rfl) dX10_agrees_43 (fun r_142 hr_142 => ?_)
      obtain ⟨x_143, ex_143⟩ : ∃ y, r_142.toInt32 = y := ⟨_, rfl⟩
      refine lv_l2i (v := x_143) hx hb dX10_agrees_46 ex_143 ?_
      refine lv_istore (lv' := [(5, .int x_143), (4, .int L4_137), (0, .ref h0), (1, .int p0), (2, .int p1), (3, .int p2)]) hx hb dX10_agrees_47 hl (by decide) rfl (fun ls hl => ?_)
      refine lv_aload_n hx hb dX10_agrees_49 rfl (lv_at hl 2 rfl) ?_
      refine va_get (D := D) (ci := 10) (v := .ref sl) (C := RX10) (T := TX10) (N := 5) hx hb hts inX10 hown hKN.1 hP 0 rfl rfl 4 (by decide) (hts _ tw_452) (fun _ h9 => h9) rfl dX10_agrees_50 ?_
      refine lv_iload_n hx hb dX10_agrees_53 rfl (lv_at hl 3 rfl) ?_
      refine lv_iload hx hb dX10_agrees_54 (lv_at hl 1 rfl) ?_
      refine lv_iconst (v := 1) hx hb dX10_agrees_56 (by decide) ?_
      refine lv_iadd hx hb dX10_agrees_57 ?_
      refine lv_topi (fun x_144 ex_144 => ?_)
      have k_145 := ar_add rfl zi_1 ex_144 (by omega) (by omega)
      refine cpVl (rest := []) ⟨hx, hb, hml, hown, hts⟩ hKN (hP.sub (ws' := [(sl, .inr (7, [.ref s_qsizes, .ref s_qwidths, .ref s_qnumbers])), (s_qsizes, .inl (cA 1, 4, .inl s_csizes)), (s_qnumbers, .inl (cA 2, 240, .inr (.inl s_cnumbers)))]) [4, 5, 6] rfl) (g_X7_numberAt l D cA sl s_qsizes s_qwidths s_qnumbers s_csizes s_cnumbers p0 x_144 a_s_csizes_0) (tb_V tw_1188 tw_957 tw_958 tw_107 tw_959) hdX7_numberAt ⟨rfl, rfl, Nat.le_of_ble_eq_true rfl, Nat.le_of_ble_eq_true rfl⟩ ⟨Nat.le_of_ble_eq_true rfl, Nat.le_of_ble_eq_true rfl⟩ rfl rfl rfl hl.1 rfl (Nat.le_of_ble_eq_true rfl) dX10_agrees_58 (fun r_146 hr_146 => ?_)
      obtain ⟨x_147, ex_147⟩ : ∃ y, r_146.toInt32 = y := ⟨_, rfl⟩
      refine lv_l2i (v := x_147) hx hb dX10_agrees_61 ex_147 ?_
      refine lv_istore (lv' := [(6, .int x_147), (5, .int x_143), (4, .int L4_137), (0, .ref h0), (1, .int p0), (2, .int p1), (3, .int p2)]) hx hb dX10_agrees_62 hl (by decide) rfl (fun ls hl => ?_)
      refine lv_aload_n hx hb dX10_agrees_64 rfl (lv_at hl 3 rfl) ?_
      refine lv_iload hx hb dX10_agrees_65 (lv_at hl 1 rfl) ?_
      refine lv_iload hx hb dX10_agrees_67 (lv_at hl 0 rfl) ?_
      refine lv_iload_n hx hb dX10_agrees_69 rfl (lv_at hl 5 rfl) ?_
      refine lv_iload_n hx hb dX10_agrees_70 rfl (lv_at hl 6 rfl) ?_
      refine cpVi (rest := []) ⟨hx, hb, hml, hown, hts⟩ hKN (hP.sub (ws' := [(h0, .inr (10, [.int we_fitting, .ref we_qfitted, .ref we_qsharing, .ref g, .ref sl])), (g, .inr (3, [.int g_odds, .int g_pot, .int g_lines, .int g_men, .int g_clauses, .int g_winds, .int g_far0, .int g_far1, .ref g_qsides, .ref g_qgrips, .ref g_qwits, .ref g_qsays, .ref g_qgives0, .ref g_qgives1, .ref g_qfroms, .ref g_qtos])), (g_qgrips, .inl (cA 1, 8, .inl g_cgrips)), (g_qwits, .inl (cA 1, 8, .inl g_cwits))]) [0, 1, 2, 3] rfl) (g_X10_wearyHold l D cA h0 we_fitting we_qfitted we_qsharing g sl g_odds g_pot g_lines g_men g_clauses g_winds g_far0 g_far1 g_qsides g_qgrips g_qwits g_qsays g_qgives0 g_qgives1 g_qfroms g_qtos g_cgrips g_cwits x_143 x_147 p1 p2 (by omega) (by omega) (by omega) (by omega) (by omega) (by omega) (by omega)) (tb_V tw_1206 tw_1208 tw_29 tw_113 tw_1209) hdX10_wearyHold ⟨rfl, rfl, Nat.le_of_ble_eq_true rfl, Nat.le_of_ble_eq_true rfl⟩ ⟨Nat.le_of_ble_eq_true rfl, Nat.le_of_ble_eq_true rfl⟩ rfl rfl rfl hl.1 rfl (Nat.le_of_ble_eq_true rfl) dX10_agrees_71 (fun r_148 hr_148 => ?_)
      obtain ⟨x_149, ex_149⟩ : ∃ y, r_148.toInt64 = y := ⟨_, rfl⟩
      refine lv_i2l (v := x_149) hx hb dX10_agrees_74 ex_149 ?_
      have k_150 := tt_i2l ex_149
      refine lv_aload_n hx hb dX10_agrees_75 rfl (lv_at hl 3 rfl) ?_
      refine va_get (D := D) (ci := 10) (v := .ref sl) (C := RX10) (T := TX10) (N := 5) hx hb hts inX10 hown hKN.1 hP 0 rfl rfl 4 (by decide) (hts _ tw_452) (fun _ h9 => h9) rfl dX10_agrees_76 ?_
      refine lv_iload_n hx hb dX10_agrees_79 rfl (lv_at hl 4 rfl) ?_
      refine lv_iload hx hb dX10_agrees_80 (lv_at hl 2 rfl) ?_
      refine lv_iconst (v := 2) hx hb dX10_agrees_82 (by decide) ?_
      refine lv_iadd hx hb dX10_agrees_83 ?_
      refine lv_topi (fun x_151 ex_151 => ?_)
      have k_152 := ar_add rfl zi_2 ex_151 (by omega) (by omega)
      refine cpVl (rest := [.long x_149]) ⟨hx, hb, hml, hown, hts⟩ hKN (hP.sub (ws' := [(sl, .inr (7, [.ref s_qsizes, .ref s_qwidths, .ref s_qnumbers])), (s_qsizes, .inl (cA 1, 4, .inl s_csizes)), (s_qnumbers, .inl (cA 2, 240, .inr (.inl s_cnumbers)))]) [4, 5, 6] rfl) (g_X7_numberAt l D cA sl s_qsizes s_qwidths s_qnumbers s_csizes s_cnumbers p0 x_151 a_s_csizes_0) (tb_V tw_1188 tw_957 tw_958 tw_107 tw_959) hdX7_numberAt ⟨rfl, rfl, Nat.le_of_ble_eq_true rfl, Nat.le_of_ble_eq_true rfl⟩ ⟨Nat.le_of_ble_eq_true rfl, Nat.le_of_ble_eq_true rfl⟩ rfl rfl rfl hl.1 rfl (Nat.le_of_ble_eq_true rfl) dX10_agrees_84 (fun r_153 hr_153 => ?_)
      refine W.lcmp hx hb dX10_agrees_87 ?_
      refine lv_if_eq (tgt := 93) hx hb dX10_agrees_88 (by decide) (fun c_154 => ?_) (fun c_154 => ?_)
      · skip
        have b_156 := i64_bd x_149
        have b_157 := i64_bd r_153
        have k_155 := jj_eq rfl rfl c_154
        obtain ⟨x_158, ex_158⟩ : ∃ y : Int32, L4_137 + Int32.ofInt 3 = y := ⟨_, rfl⟩
        have k_159 := ar_add (b := 3) rfl zi_3 ex_158.symm (by omega) (by omega)
        refine lv_iinc (v := x_158) (lv' := [(4, .int x_158), (6, .int x_147), (5, .int x_143), (0, .ref h0), (1, .int p0), (2, .int p1), (3, .int p2)]) hx hb dX10_agrees_93 hl (k := 2) rfl ex_158 (by decide) rfl (fun ls hl => ?_)
        refine lv_goto (tgt := 23) hx hb dX10_agrees_96 (by decide) ?_
        exact ih_137 (x_158) _ _ _ ⟨(show 0 ≤ x_158.toInt ∧ x_158.toInt ≤ 62 from by omega), rfl, rfl, lv_sub hl [0, 3, 4, 5, 6] rfl⟩ (by show (2147483647 - x_158.toInt).toNat < (2147483647 - L4_137.toInt).toNat; omega)
      · skip
        have b_161 := i64_bd x_149
        have b_162 := i64_bd r_153
        have k_160 := jj_ne rfl rfl c_154
        refine lv_iconst (v := 0) hx hb dX10_agrees_91 (by decide) ?_
        exact W.zret (v := 0) hx hb hr (by decide) (fun t ht hW => ⟨0, rfl, (show 0 ≤ (0 : Int32).toInt ∧ (0 : Int32).toInt ≤ 1 from by decide), ht⟩) (fun _ h => by cases h) dX10_agrees_92
  · skip
    refine lv_if_ne (tgt := 20) hx hb dX10_agrees_15 (by decide) (fun c_163 => absurd (by decide) c_163) (fun c_163 => ?_)
    refine lv_iconst (v := 0) hx hb dX10_agrees_18 (by decide) ?_
    exact W.zret (v := 0) hx hb hr (by decide) (fun t ht hW => ⟨0, rfl, (show 0 ≤ (0 : Int32).toInt ∧ (0 : Int32).toInt ≤ 1 from by decide), ht⟩) (fun _ h => by cases h) dX10_agrees_19
set_option maxHeartbeats 8000000 in
set_option maxRecDepth 100000 in
theorem g_X10_isTold (l : Launch) (D : va_G) (cA : Nat → ClassId) (h0 : Nat) (we_fitting : Int32) (we_qfitted : Nat) (we_qsharing : Nat) (g : Nat) (sl : Nat) (g_odds : Int32) (g_pot : Int32) (g_lines : Int32) (g_men : Int32) (g_clauses : Int32) (g_winds : Int32) (g_far0 : Int32) (g_far1 : Int32) (g_qsides : Nat) (g_qgrips : Nat) (g_qwits : Nat) (g_qsays : Nat) (g_qgives0 : Nat) (g_qgives1 : Nat) (g_qfroms : Nat) (g_qtos : Nat) (g_csides : Nat → Int32) (s_qsizes : Nat) (s_qwidths : Nat) (s_qnumbers : Nat) (s_csizes : Nat → Int32) (s_cnumbers : Nat → Int64) (p0 : Int32) (h_g_odds : -999 ≤ (g_odds : Int32).toInt ∧ (g_odds : Int32).toInt ≤ 999) (h_g_pot : -999 ≤ (g_pot : Int32).toInt ∧ (g_pot : Int32).toInt ≤ 999) (h_g_men : 0 ≤ (g_men : Int32).toInt ∧ (g_men : Int32).toInt ≤ 8) (h_g_clauses : 0 ≤ (g_clauses : Int32).toInt ∧ (g_clauses : Int32).toInt ≤ 7) (h_g_winds : 0 ≤ (g_winds : Int32).toInt ∧ (g_winds : Int32).toInt ≤ 4) (h_g_far0 : -999 ≤ (g_far0 : Int32).toInt ∧ (g_far0 : Int32).toInt ≤ 999) (h_g_far1 : -999 ≤ (g_far1 : Int32).toInt ∧ (g_far1 : Int32).toInt ≤ 999) (a_s_csizes_0 : AR (-1) 60 s_csizes) : Met l yX10_isTold (Cond.code yX10_isTold cX10_isTold 5 (some .boolean) :: TB) (rmd 3 0 0) (PP D cA [(h0, .inr (10, [.int we_fitting, .ref we_qfitted, .ref we_qsharing, .ref g, .ref sl])), (g, .inr (3, [.int g_odds, .int g_pot, .int g_lines, .int g_men, .int g_clauses, .int g_winds, .int g_far0, .int g_far1, .ref g_qsides, .ref g_qgrips, .ref g_qwits, .ref g_qsays, .ref g_qgives0, .ref g_qgives1, .ref g_qfroms, .ref g_qtos])), (g_qsides, .inl (cA 1, 8, .inl g_csides)), (sl, .inr (7, [.ref s_qsizes, .ref s_qwidths, .ref s_qnumbers])), (s_qsizes, .inl (cA 1, 4, .inl s_csizes)), (s_qnumbers, .inl (cA 2, 240, .inr (.inl s_cnumbers)))] [.ref h0, .int p0]) (vp_Si (fun r => 0 ≤ r.toInt ∧ r.toInt ≤ 1)) 0 0 (fun _ => False) := by
  refine Met.ofW (cc := cX10_isTold) (maxL := 5) (ret := (some .boolean)) (by decide) rfl ?_
  intro p e s m args below meth c s₁ B hml hv
  obtain ⟨rfl, hP, hKN⟩ := hv
  have hx := B.exec
  have hb := B.bytes
  have hr := B.returns
  have hts : ∀ w ∈ TB, w.before _ s = true := fun w h => atoms_spec B.pre w (List.mem_cons_of_mem _ h)
  have hown : s.vm.findClass RX10 = some m.cls := findClass_of_methodNamed B.named
  have hlocks := B.notSynchronized
  have hl := lv_entry ([.ref h0, .int p0]) (n := 5) (Nat.le_of_ble_eq_true rfl)
  rw [lg_entry_eq]
  generalize (lg_sl ([.ref h0, .int p0]) ++ List.replicate (5 - (lg_sl ([.ref h0, .int p0])).length) Slot.unset).toArray = ls at hl ⊢
  have hl : lv_has ls 5 [(0, .ref h0), (1, .int p0)] := hl
  refine lv_aload_n hx hb dX10_isTold_0 rfl (lv_at hl 0 rfl) ?_
  refine va_get (D := D) (ci := 10) (v := .ref sl) (C := RX10) (T := TX10) (N := 5) hx hb hts inX10 hown hKN.1 hP 0 rfl rfl 4 (by decide) (hts _ tw_452) (fun _ h9 => h9) rfl dX10_isTold_1 ?_
  refine lv_iload_n hx hb dX10_isTold_4 rfl (lv_at hl 1 rfl) ?_
  refine cpVi (rest := []) ⟨hx, hb, hml, hown, hts⟩ hKN (hP.sub (ws' := [(sl, .inr (7, [.ref s_qsizes, .ref s_qwidths, .ref s_qnumbers])), (s_qsizes, .inl (cA 1, 4, .inl s_csizes))]) [3, 4] rfl) (g_X7_sizeOf l D cA sl s_qsizes s_qwidths s_qnumbers s_csizes p0 a_s_csizes_0) (tb_V tw_1187 tw_947 tw_948 tw_107 tw_949) hdX7_sizeOf ⟨rfl, rfl, Nat.le_of_ble_eq_true rfl, Nat.le_of_ble_eq_true rfl⟩ ⟨Nat.le_of_ble_eq_true rfl, Nat.le_of_ble_eq_true rfl⟩ rfl rfl rfl hl.1 rfl (Nat.le_of_ble_eq_true rfl) dX10_isTold_5 (fun r_1 hr_1 => ?_)
  refine lv_iconst (v := 3) hx hb dX10_isTold_8 (by decide) ?_
  refine lv_irem hx hb dX10_isTold_9 (by decide) ?_
  refine lv_topi (fun x_2 ex_2 => ?_)
  refine lv_if_eq (tgt := 15) hx hb dX10_isTold_10 (by decide) (fun c_4 => ?_) (fun c_4 => ?_)
  · skip
    have b_6 := i32_bd x_2
    have k_5 := kk_eq rfl zi_0 c_4
    refine lv_iconst (v := 0) hx hb dX10_isTold_15 (by decide) ?_
    refine lv_istore_n (lv' := [(2, .int 0), (0, .ref h0), (1, .int p0)]) hx hb dX10_isTold_16 rfl hl (by decide) rfl (fun ls hl => ?_)
    refine loopW (σ := Int32) (fun _ => []) (fun L2_167 H locs ls => (0 ≤ L2_167.toInt ∧ L2_167.toInt ≤ 62) ∧ H = s.heap ∧ locs = [] ∧ lv_has ls 5 [(2, .int L2_167), (0, .ref h0), (1, .int p0)]) (fun L2_167 => (2147483647 - L2_167.toInt).toNat) ?_ (0 : Int32) ⟨(by decide), rfl, rfl, hl⟩
    intro x_167 H locs ls hI_167 ih_167
    obtain ⟨L2_167, rfl⟩ : ∃ z, z = x_167 := ⟨_, rfl⟩
    obtain ⟨k0_167, rfl, rfl, hl⟩ := hI_167
    have hl : lv_has ls 5 [(2, .int L2_167), (0, .ref h0), (1, .int p0)] := hl
    refine lv_iload_n hx hb dX10_isTold_17 rfl (lv_at hl 0 rfl) ?_
    refine lv_aload_n hx hb dX10_isTold_18 rfl (lv_at hl 1 rfl) ?_
    refine va_get (D := D) (ci := 10) (v := .ref sl) (C := RX10) (T := TX10) (N := 5) hx hb hts inX10 hown hKN.1 hP 0 rfl rfl 4 (by decide) (hts _ tw_452) (fun _ h9 => h9) rfl dX10_isTold_19 ?_
    refine lv_iload_n hx hb dX10_isTold_22 rfl (lv_at hl 2 rfl) ?_
    refine cpVi (rest := [.int L2_167]) ⟨hx, hb, hml, hown, hts⟩ hKN (hP.sub (ws' := [(sl, .inr (7, [.ref s_qsizes, .ref s_qwidths, .ref s_qnumbers])), (s_qsizes, .inl (cA 1, 4, .inl s_csizes))]) [3, 4] rfl) (g_X7_sizeOf l D cA sl s_qsizes s_qwidths s_qnumbers s_csizes p0 a_s_csizes_0) (tb_V tw_1187 tw_947 tw_948 tw_107 tw_949) hdX7_sizeOf ⟨rfl, rfl, Nat.le_of_ble_eq_true rfl, Nat.le_of_ble_eq_true rfl⟩ ⟨Nat.le_of_ble_eq_true rfl, Nat.le_of_ble_eq_true rfl⟩ rfl rfl rfl hl.1 rfl (Nat.le_of_ble_eq_true rfl) dX10_isTold_23 (fun r_168 hr_168 => ?_)
    refine lv_icmp_ge (tgt := 99) hx hb dX10_isTold_26 (by decide) (fun c_169 => ?_) (fun c_169 => ?_)
    · skip
      have k_170 := kk_le rfl rfl c_169
      refine lv_iconst (v := 1) hx hb dX10_isTold_99 (by decide) ?_
      exact W.zret (v := 1) hx hb hr (by decide) (fun t ht hW => ⟨1, rfl, (show 0 ≤ (1 : Int32).toInt ∧ (1 : Int32).toInt ≤ 1 from by decide), ht⟩) (fun _ h => by cases h) dX10_isTold_100
    · skip
      have k_171 := kk_nle rfl rfl c_169
      refine lv_aload_n hx hb dX10_isTold_29 rfl (lv_at hl 1 rfl) ?_
      refine va_get (D := D) (ci := 10) (v := .ref sl) (C := RX10) (T := TX10) (N := 5) hx hb hts inX10 hown hKN.1 hP 0 rfl rfl 4 (by decide) (hts _ tw_452) (fun _ h9 => h9) rfl dX10_isTold_30 ?_
      refine lv_iload_n hx hb dX10_isTold_33 rfl (lv_at hl 2 rfl) ?_
      refine lv_iload_n hx hb dX10_isTold_34 rfl (lv_at hl 0 rfl) ?_
      refine lv_iconst (v := 2) hx hb dX10_isTold_35 (by decide) ?_
      refine lv_iadd hx hb dX10_isTold_36 ?_
      refine lv_topi (fun x_172 ex_172 => ?_)
      have k_173 := ar_add rfl zi_2 ex_172 (by omega) (by omega)
      refine cpVl (rest := []) ⟨hx, hb, hml, hown, hts⟩ hKN (hP.sub (ws' := [(sl, .inr (7, [.ref s_qsizes, .ref s_qwidths, .ref s_qnumbers])), (s_qsizes, .inl (cA 1, 4, .inl s_csizes)), (s_qnumbers, .inl (cA 2, 240, .inr (.inl s_cnumbers)))]) [3, 4, 5] rfl) (g_X7_numberAt l D cA sl s_qsizes s_qwidths s_qnumbers s_csizes s_cnumbers p0 x_172 a_s_csizes_0) (tb_V tw_1188 tw_957 tw_958 tw_107 tw_959) hdX7_numberAt ⟨rfl, rfl, Nat.le_of_ble_eq_true rfl, Nat.le_of_ble_eq_true rfl⟩ ⟨Nat.le_of_ble_eq_true rfl, Nat.le_of_ble_eq_true rfl⟩ rfl rfl rfl hl.1 rfl (Nat.le_of_ble_eq_true rfl) dX10_isTold_37 (fun r_174 hr_174 => ?_)
      refine lv_lstore_n (lv' := [(3, .long r_174), (2, .int L2_167), (0, .ref h0), (1, .int p0)]) hx hb dX10_isTold_40 rfl hl (by decide) rfl (fun ls hl => ?_)
      refine lv_aload_n hx hb dX10_isTold_41 rfl (lv_at hl 2 rfl) ?_
      refine lv_aload_n hx hb dX10_isTold_42 rfl (lv_at hl 2 rfl) ?_
      refine va_get (D := D) (ci := 10) (v := .ref sl) (C := RX10) (T := TX10) (N := 5) hx hb hts inX10 hown hKN.1 hP 0 rfl rfl 4 (by decide) (hts _ tw_452) (fun _ h9 => h9) rfl dX10_isTold_43 ?_
      refine lv_iload_n hx hb dX10_isTold_46 rfl (lv_at hl 3 rfl) ?_
      refine lv_iload_n hx hb dX10_isTold_47 rfl (lv_at hl 1 rfl) ?_
      refine cpVl (rest := [.ref h0]) ⟨hx, hb, hml, hown, hts⟩ hKN (hP.sub (ws' := [(sl, .inr (7, [.ref s_qsizes, .ref s_qwidths, .ref s_qnumbers])), (s_qsizes, .inl (cA 1, 4, .inl s_csizes)), (s_qnumbers, .inl (cA 2, 240, .inr (.inl s_cnumbers)))]) [3, 4, 5] rfl) (g_X7_numberAt l D cA sl s_qsizes s_qwidths s_qnumbers s_csizes s_cnumbers p0 L2_167 a_s_csizes_0) (tb_V tw_1188 tw_957 tw_958 tw_107 tw_959) hdX7_numberAt ⟨rfl, rfl, Nat.le_of_ble_eq_true rfl, Nat.le_of_ble_eq_true rfl⟩ ⟨Nat.le_of_ble_eq_true rfl, Nat.le_of_ble_eq_true rfl⟩ rfl rfl rfl hl.1 rfl (Nat.le_of_ble_eq_true rfl) dX10_isTold_48 (fun r_175 hr_175 => ?_)
      refine lv_iconst (v := 0) hx hb dX10_isTold_51 (by decide) ?_
      have z_176 := zi_0
      refine cpVi (rest := []) ⟨hx, hb, hml, hown, hts⟩ hKN (hP.sub (ws' := [(h0, .inr (10, [.int we_fitting, .ref we_qfitted, .ref we_qsharing, .ref g, .ref sl])), (g, .inr (3, [.int g_odds, .int g_pot, .int g_lines, .int g_men, .int g_clauses, .int g_winds, .int g_far0, .int g_far1, .ref g_qsides, .ref g_qgrips, .ref g_qwits, .ref g_qsays, .ref g_qgives0, .ref g_qgives1, .ref g_qfroms, .ref g_qtos])), (g_qsides, .inl (cA 1, 8, .inl g_csides))]) [0, 1, 2] rfl) (g_X10_isManOf l D cA h0 we_fitting we_qfitted we_qsharing g sl g_odds g_pot g_lines g_men g_clauses g_winds g_far0 g_far1 g_qsides g_qgrips g_qwits g_qsays g_qgives0 g_qgives1 g_qfroms g_qtos g_csides r_175 0 (by omega) (by omega) (by omega) (by omega) (by omega) (by omega) (by omega)) (tb_V tw_1189 tw_1191 tw_27 tw_113 tw_1192) hdX10_isManOf ⟨rfl, rfl, Nat.le_of_ble_eq_true rfl, Nat.le_of_ble_eq_true rfl⟩ ⟨Nat.le_of_ble_eq_true rfl, Nat.le_of_ble_eq_true rfl⟩ rfl rfl rfl hl.1 rfl (Nat.le_of_ble_eq_true rfl) dX10_isTold_52 (fun r_177 hr_177 => ?_)
      refine lv_if_eq (tgt := 91) hx hb dX10_isTold_55 (by decide) (fun c_178 => ?_) (fun c_178 => ?_)
      · skip
        have k_179 := kk_eq rfl zi_0 c_178
        refine lv_iconst (v := 0) hx hb dX10_isTold_91 (by decide) ?_
        exact W.zret (v := 0) hx hb hr (by decide) (fun t ht hW => ⟨0, rfl, (show 0 ≤ (0 : Int32).toInt ∧ (0 : Int32).toInt ≤ 1 from by decide), ht⟩) (fun _ h => by cases h) dX10_isTold_92
      · skip
        have k_180 := kk_ne rfl zi_0 c_178
        refine lv_aload_n hx hb dX10_isTold_58 rfl (lv_at hl 2 rfl) ?_
        refine lv_aload_n hx hb dX10_isTold_59 rfl (lv_at hl 2 rfl) ?_
        refine va_get (D := D) (ci := 10) (v := .ref sl) (C := RX10) (T := TX10) (N := 5) hx hb hts inX10 hown hKN.1 hP 0 rfl rfl 4 (by decide) (hts _ tw_452) (fun _ h9 => h9) rfl dX10_isTold_60 ?_
        refine lv_iload_n hx hb dX10_isTold_63 rfl (lv_at hl 3 rfl) ?_
        refine lv_iload_n hx hb dX10_isTold_64 rfl (lv_at hl 1 rfl) ?_
        refine lv_iconst (v := 1) hx hb dX10_isTold_65 (by decide) ?_
        refine lv_iadd hx hb dX10_isTold_66 ?_
        refine lv_topi (fun x_181 ex_181 => ?_)
        have k_182 := ar_add rfl zi_1 ex_181 (by omega) (by omega)
        refine cpVl (rest := [.ref h0]) ⟨hx, hb, hml, hown, hts⟩ hKN (hP.sub (ws' := [(sl, .inr (7, [.ref s_qsizes, .ref s_qwidths, .ref s_qnumbers])), (s_qsizes, .inl (cA 1, 4, .inl s_csizes)), (s_qnumbers, .inl (cA 2, 240, .inr (.inl s_cnumbers)))]) [3, 4, 5] rfl) (g_X7_numberAt l D cA sl s_qsizes s_qwidths s_qnumbers s_csizes s_cnumbers p0 x_181 a_s_csizes_0) (tb_V tw_1188 tw_957 tw_958 tw_107 tw_959) hdX7_numberAt ⟨rfl, rfl, Nat.le_of_ble_eq_true rfl, Nat.le_of_ble_eq_true rfl⟩ ⟨Nat.le_of_ble_eq_true rfl, Nat.le_of_ble_eq_true rfl⟩ rfl rfl rfl hl.1 rfl (Nat.le_of_ble_eq_true rfl) dX10_isTold_67 (fun r_183 hr_183 => ?_)
        refine lv_iconst (v := 1) hx hb dX10_isTold_70 (by decide) ?_
        have z_184 := zi_1
        refine cpVi (rest := []) ⟨hx, hb, hml, hown, hts⟩ hKN (hP.sub (ws' := [(h0, .inr (10, [.int we_fitting, .ref we_qfitted, .ref we_qsharing, .ref g, .ref sl])), (g, .inr (3, [.int g_odds, .int g_pot, .int g_lines, .int g_men, .int g_clauses, .int g_winds, .int g_far0, .int g_far1, .ref g_qsides, .ref g_qgrips, .ref g_qwits, .ref g_qsays, .ref g_qgives0, .ref g_qgives1, .ref g_qfroms, .ref g_qtos])), (g_qsides, .inl (cA 1, 8, .inl g_csides))]) [0, 1, 2] rfl) (g_X10_isManOf l D cA h0 we_fitting we_qfitted we_qsharing g sl g_odds g_pot g_lines g_men g_clauses g_winds g_far0 g_far1 g_qsides g_qgrips g_qwits g_qsays g_qgives0 g_qgives1 g_qfroms g_qtos g_csides r_183 1 (by omega) (by omega) (by omega) (by omega) (by omega) (by omega) (by omega)) (tb_V tw_1189 tw_1191 tw_27 tw_113 tw_1192) hdX10_isManOf ⟨rfl, rfl, Nat.le_of_ble_eq_true rfl, Nat.le_of_ble_eq_true rfl⟩ ⟨Nat.le_of_ble_eq_true rfl, Nat.le_of_ble_eq_true rfl⟩ rfl rfl rfl hl.1 rfl (Nat.le_of_ble_eq_true rfl) dX10_isTold_71 (fun r_185 hr_185 => ?_)
        refine lv_if_eq (tgt := 91) hx hb dX10_isTold_74 (by decide) (fun c_186 => ?_) (fun c_186 => ?_)
        · skip
          have k_187 := kk_eq rfl zi_0 c_186
          refine lv_iconst (v := 0) hx hb dX10_isTold_91 (by decide) ?_
          exact W.zret (v := 0) hx hb hr (by decide) (fun t ht hW => ⟨0, rfl, (show 0 ≤ (0 : Int32).toInt ∧ (0 : Int32).toInt ≤ 1 from by decide), ht⟩) (fun _ h => by cases h) dX10_isTold_92
        · skip
          have k_188 := kk_ne rfl zi_0 c_186
          refine lv_lload_n hx hb dX10_isTold_77 rfl (lv_at hl 0 rfl) ?_
          refine lv_lconst (v := 0) hx hb dX10_isTold_78 (by decide) ?_
          refine W.lcmp hx hb dX10_isTold_79 ?_
          refine lv_if_lt (tgt := 91) hx hb dX10_isTold_80 (by decide) (fun c_189 => ?_) (fun c_189 => ?_)
          · skip
            have b_191 := i64_bd r_174
            have k_190 := jj_lt rfl zj_0 c_189
            refine lv_iconst (v := 0) hx hb dX10_isTold_91 (by decide) ?_
            exact W.zret (v := 0) hx hb hr (by decide) (fun t ht hW => ⟨0, rfl, (show 0 ≤ (0 : Int32).toInt ∧ (0 : Int32).toInt ≤ 1 from by decide), ht⟩) (fun _ h => by cases h) dX10_isTold_92
          · skip
            have b_193 := i64_bd r_174
            have k_192 := jj_nlt rfl zj_0 c_189
            refine lv_lload_n hx hb dX10_isTold_83 rfl (lv_at hl 0 rfl) ?_
            refine lv_ldc2 (v := 99) hx hb hown (hts _ tw_1195) dX10_isTold_84 ?_
            refine W.lcmp hx hb dX10_isTold_87 ?_
            refine lv_if_le (tgt := 93) hx hb dX10_isTold_88 (by decide) (fun c_194 => ?_) (fun c_194 => ?_)
            · skip
              have k_195 := jj_le rfl zj_99 c_194
              obtain ⟨x_196, ex_196⟩ : ∃ y : Int32, L2_167 + Int32.ofInt 3 = y := ⟨_, rfl⟩
              have k_197 := ar_add (b := 3) rfl zi_3 ex_196.symm (by omega) (by omega)
              refine lv_iinc (v := x_196) (lv' := [(2, .int x_196), (3, .long r_174), (0, .ref h0), (1, .int p0)]) hx hb dX10_isTold_93 hl (k := 1) rfl ex_196 (by decide) rfl (fun ls hl => ?_)
              refine lv_goto (tgt := 17) hx hb dX10_isTold_96 (by decide) ?_
              exact ih_167 (x_196) _ _ _ ⟨(show 0 ≤ x_196.toInt ∧ x_196.toInt ≤ 62 from by omega), rfl, rfl, lv_sub hl [0, 2, 3] rfl⟩ (by show (2147483647 - x_196.toInt).toNat < (2147483647 - L2_167.toInt).toNat; omega)
            · skip
              have k_198 := jj_nle rfl zj_99 c_194
              refine lv_iconst (v := 0) hx hb dX10_isTold_91 (by decide) ?_
              exact W.zret (v := 0) hx hb hr (by decide) (fun t ht hW => ⟨0, rfl, (show 0 ≤ (0 : Int32).toInt ∧ (0 : Int32).toInt ≤ 1 from by decide), ht⟩) (fun _ h => by cases h) dX10_isTold_92
  · skip
    have b_200 := i32_bd x_2
    have k_199 := kk_ne rfl zi_0 c_4
    refine lv_iconst (v := 0) hx hb dX10_isTold_13 (by decide) ?_
    exact W.zret (v := 0) hx hb hr (by decide) (fun t ht hW => ⟨0, rfl, (show 0 ≤ (0 : Int32).toInt ∧ (0 : Int32).toInt ≤ 1 from by decide), ht⟩) (fun _ h => by cases h) dX10_isTold_14
set_option maxHeartbeats 8000000 in
set_option maxRecDepth 100000 in
theorem g_X10_gather (l : Launch) (D : va_G) (cA : Nat → ClassId) (sz : Nat) (h0 : Nat) (we_fitting : Int32) (we_qfitted : Nat) (we_qsharing : Nat) (g : Nat) (sl : Nat) (we_cfitted : Nat → Int32) (g_odds : Int32) (g_pot : Int32) (g_lines : Int32) (g_men : Int32) (g_clauses : Int32) (g_winds : Int32) (g_far0 : Int32) (g_far1 : Int32) (g_qsides : Nat) (g_qgrips : Nat) (g_qwits : Nat) (g_qsays : Nat) (g_qgives0 : Nat) (g_qgives1 : Nat) (g_qfroms : Nat) (g_qtos : Nat) (g_cgrips : Nat → Int32) (g_cwits : Nat → Int32) (s_qsizes : Nat) (s_qwidths : Nat) (s_qnumbers : Nat) (s_csizes : Nat → Int32) (s_cnumbers : Nat → Int64) (p0 : Int32) (h_g_odds : -999 ≤ (g_odds : Int32).toInt ∧ (g_odds : Int32).toInt ≤ 999) (h_g_pot : -999 ≤ (g_pot : Int32).toInt ∧ (g_pot : Int32).toInt ≤ 999) (h_g_men : 0 ≤ (g_men : Int32).toInt ∧ (g_men : Int32).toInt ≤ 8) (h_g_clauses : 0 ≤ (g_clauses : Int32).toInt ∧ (g_clauses : Int32).toInt ≤ 7) (h_g_winds : 0 ≤ (g_winds : Int32).toInt ∧ (g_winds : Int32).toInt ≤ 4) (h_g_far0 : -999 ≤ (g_far0 : Int32).toInt ∧ (g_far0 : Int32).toInt ≤ 999) (h_g_far1 : -999 ≤ (g_far1 : Int32).toInt ∧ (g_far1 : Int32).toInt ≤ 999) (a_s_csizes_0 : AR (-1) 60 s_csizes) : Met l yX10_gather (Cond.code yX10_gather cX10_gather 3 none :: TB) (rmd 4 0 0) (PM D cA sz [(h0, .inr (10, [.int we_fitting, .ref we_qfitted, .ref we_qsharing, .ref g, .ref sl])), (we_qfitted, .inl (cA 3, 240, .inl we_cfitted)), (g, .inr (3, [.int g_odds, .int g_pot, .int g_lines, .int g_men, .int g_clauses, .int g_winds, .int g_far0, .int g_far1, .ref g_qsides, .ref g_qgrips, .ref g_qwits, .ref g_qsays, .ref g_qgives0, .ref g_qgives1, .ref g_qfroms, .ref g_qtos])), (g_qgrips, .inl (cA 1, 8, .inl g_cgrips)), (g_qwits, .inl (cA 1, 8, .inl g_cwits)), (sl, .inr (7, [.ref s_qsizes, .ref s_qwidths, .ref s_qnumbers])), (s_qsizes, .inl (cA 1, 4, .inl s_csizes)), (s_qnumbers, .inl (cA 2, 240, .inr (.inl s_cnumbers)))] [.ref h0, .int p0]) (va_Qv (fun (u : SU) => True) (fun u t => va_P D vwCl [(h0, .inr (10, [.int (u.2.1 0), .ref we_qfitted, .ref we_qsharing, .ref g, .ref sl])), (we_qfitted, .inl (cA 3, 240, .inl (u.2.2.1 0))), (g, .inr (3, [.int g_odds, .int g_pot, .int g_lines, .int g_men, .int g_clauses, .int g_winds, .int g_far0, .int g_far1, .ref g_qsides, .ref g_qgrips, .ref g_qwits, .ref g_qsays, .ref g_qgives0, .ref g_qgives1, .ref g_qfroms, .ref g_qtos])), (g_qgrips, .inl (cA 1, 8, .inl g_cgrips)), (g_qwits, .inl (cA 1, 8, .inl g_cwits)), (sl, .inr (7, [.ref s_qsizes, .ref s_qwidths, .ref s_qnumbers])), (s_qsizes, .inl (cA 1, 4, .inl s_csizes)), (s_qnumbers, .inl (cA 2, 240, .inr (.inl s_cnumbers)))] t.heap ∧ va_D (va_A [(h0, .inr (10, [.int we_fitting, .ref we_qfitted, .ref we_qsharing, .ref g, .ref sl])), (we_qfitted, .inl (cA 3, 240, .inl we_cfitted)), (g, .inr (3, [.int g_odds, .int g_pot, .int g_lines, .int g_men, .int g_clauses, .int g_winds, .int g_far0, .int g_far1, .ref g_qsides, .ref g_qgrips, .ref g_qwits, .ref g_qsays, .ref g_qgives0, .ref g_qgives1, .ref g_qfroms, .ref g_qtos])), (g_qgrips, .inl (cA 1, 8, .inl g_cgrips)), (g_qwits, .inl (cA 1, 8, .inl g_cwits)), (sl, .inr (7, [.ref s_qsizes, .ref s_qwidths, .ref s_qnumbers])), (s_qsizes, .inl (cA 1, 4, .inl s_csizes)), (s_qnumbers, .inl (cA 2, 240, .inr (.inl s_cnumbers)))] sz) [(h0, .inr (10, [.int (u.2.1 0), .ref we_qfitted, .ref we_qsharing, .ref g, .ref sl])), (we_qfitted, .inl (cA 3, 240, .inl (u.2.2.1 0))), (g, .inr (3, [.int g_odds, .int g_pot, .int g_lines, .int g_men, .int g_clauses, .int g_winds, .int g_far0, .int g_far1, .ref g_qsides, .ref g_qgrips, .ref g_qwits, .ref g_qsays, .ref g_qgives0, .ref g_qgives1, .ref g_qfroms, .ref g_qtos])), (g_qgrips, .inl (cA 1, 8, .inl g_cgrips)), (g_qwits, .inl (cA 1, 8, .inl g_cwits)), (sl, .inr (7, [.ref s_qsizes, .ref s_qwidths, .ref s_qnumbers])), (s_qsizes, .inl (cA 1, 4, .inl s_csizes)), (s_qnumbers, .inl (cA 2, 240, .inr (.inl s_cnumbers)))]) (va_A [(h0, .inr (10, [.int we_fitting, .ref we_qfitted, .ref we_qsharing, .ref g, .ref sl])), (we_qfitted, .inl (cA 3, 240, .inl we_cfitted)), (g, .inr (3, [.int g_odds, .int g_pot, .int g_lines, .int g_men, .int g_clauses, .int g_winds, .int g_far0, .int g_far1, .ref g_qsides, .ref g_qgrips, .ref g_qwits, .ref g_qsays, .ref g_qgives0, .ref g_qgives1, .ref g_qfroms, .ref g_qtos])), (g_qgrips, .inl (cA 1, 8, .inl g_cgrips)), (g_qwits, .inl (cA 1, 8, .inl g_cwits)), (sl, .inr (7, [.ref s_qsizes, .ref s_qwidths, .ref s_qnumbers])), (s_qsizes, .inl (cA 1, 4, .inl s_csizes)), (s_qnumbers, .inl (cA 2, 240, .inr (.inl s_cnumbers)))] sz)) 0 0 (va_A [(h0, .inr (10, [.int we_fitting, .ref we_qfitted, .ref we_qsharing, .ref g, .ref sl])), (we_qfitted, .inl (cA 3, 240, .inl we_cfitted)), (g, .inr (3, [.int g_odds, .int g_pot, .int g_lines, .int g_men, .int g_clauses, .int g_winds, .int g_far0, .int g_far1, .ref g_qsides, .ref g_qgrips, .ref g_qwits, .ref g_qsays, .ref g_qgives0, .ref g_qgives1, .ref g_qfroms, .ref g_qtos])), (g_qgrips, .inl (cA 1, 8, .inl g_cgrips)), (g_qwits, .inl (cA 1, 8, .inl g_cwits)), (sl, .inr (7, [.ref s_qsizes, .ref s_qwidths, .ref s_qnumbers])), (s_qsizes, .inl (cA 1, 4, .inl s_csizes)), (s_qnumbers, .inl (cA 2, 240, .inr (.inl s_cnumbers)))] sz) := by
  refine Met.ofW (cc := cX10_gather) (maxL := 3) (ret := none) (by decide) rfl ?_
  intro p e s m args below meth c s₁ B hml hv
  obtain ⟨rfl, hsz, hP, hKN, hD0⟩ := hv
  have hx := B.exec
  have hb := B.bytes
  have hr := B.returns
  have hts : ∀ w ∈ TB, w.before _ s = true := fun w h => atoms_spec B.pre w (List.mem_cons_of_mem _ h)
  have hown : s.vm.findClass RX10 = some m.cls := findClass_of_methodNamed B.named
  have hlocks := B.notSynchronized
  subst hsz
  have hD := hD0.self (sz := s.heap.size)
  generalize hAe : va_A [(h0, .inr (10, [.int we_fitting, .ref we_qfitted, .ref we_qsharing, .ref g, .ref sl])), (we_qfitted, .inl (cA 3, 240, .inl we_cfitted)), (g, .inr (3, [.int g_odds, .int g_pot, .int g_lines, .int g_men, .int g_clauses, .int g_winds, .int g_far0, .int g_far1, .ref g_qsides, .ref g_qgrips, .ref g_qwits, .ref g_qsays, .ref g_qgives0, .ref g_qgives1, .ref g_qfroms, .ref g_qtos])), (g_qgrips, .inl (cA 1, 8, .inl g_cgrips)), (g_qwits, .inl (cA 1, 8, .inl g_cwits)), (sl, .inr (7, [.ref s_qsizes, .ref s_qwidths, .ref s_qnumbers])), (s_qsizes, .inl (cA 1, 4, .inl s_csizes)), (s_qnumbers, .inl (cA 2, 240, .inr (.inl s_cnumbers)))] s.heap.size = A at hD ⊢
  have hA : ∀ q : Nat, s.heap.size ≤ q → A q := fun q h => by rw [← hAe]; exact Or.inr h
  have hS : va_S A s.heap s.heap [] := va_S.rf
  have hl := lv_entry ([.ref h0, .int p0]) (n := 3) (Nat.le_of_ble_eq_true rfl)
  rw [lg_entry_eq]
  generalize (lg_sl ([.ref h0, .int p0]) ++ List.replicate (3 - (lg_sl ([.ref h0, .int p0])).length) Slot.unset).toArray = ls at hl ⊢
  have hl : lv_has ls 3 [(0, .ref h0), (1, .int p0)] := hl
  refine lv_aload_n hx hb dX10_gather_0 rfl (lv_at hl 0 rfl) ?_
  refine lv_iconst (v := 0) hx hb dX10_gather_1 (by decide) ?_
  refine va_put (D := D) (ci := 10) (v := .int 0) (ty := .int) (C := RX10) (T := TX10) (N := 5) hx hb hts inX10 tyX10 tyX10_ok nmX10 hown hKN.1 hP hD hS 0 rfl rfl 0 (by decide) (hts _ tw_447) (fun _ h9 => h9) rfl (by decide +kernel) rfl rfl (Nat.le_of_ble_eq_true rfl) dX10_gather_2 (fun H locs hP hD hS => ?_)
  have hP : va_P D vwCl [(h0, .inr (10, [.int 0, .ref we_qfitted, .ref we_qsharing, .ref g, .ref sl])), (we_qfitted, .inl (cA 3, 240, .inl we_cfitted)), (g, .inr (3, [.int g_odds, .int g_pot, .int g_lines, .int g_men, .int g_clauses, .int g_winds, .int g_far0, .int g_far1, .ref g_qsides, .ref g_qgrips, .ref g_qwits, .ref g_qsays, .ref g_qgives0, .ref g_qgives1, .ref g_qfroms, .ref g_qtos])), (g_qgrips, .inl (cA 1, 8, .inl g_cgrips)), (g_qwits, .inl (cA 1, 8, .inl g_cwits)), (sl, .inr (7, [.ref s_qsizes, .ref s_qwidths, .ref s_qnumbers])), (s_qsizes, .inl (cA 1, 4, .inl s_csizes)), (s_qnumbers, .inl (cA 2, 240, .inr (.inl s_cnumbers)))] H := hP
  have hD : va_D A [(h0, .inr (10, [.int 0, .ref we_qfitted, .ref we_qsharing, .ref g, .ref sl])), (we_qfitted, .inl (cA 3, 240, .inl we_cfitted)), (g, .inr (3, [.int g_odds, .int g_pot, .int g_lines, .int g_men, .int g_clauses, .int g_winds, .int g_far0, .int g_far1, .ref g_qsides, .ref g_qgrips, .ref g_qwits, .ref g_qsays, .ref g_qgives0, .ref g_qgives1, .ref g_qfroms, .ref g_qtos])), (g_qgrips, .inl (cA 1, 8, .inl g_cgrips)), (g_qwits, .inl (cA 1, 8, .inl g_cwits)), (sl, .inr (7, [.ref s_qsizes, .ref s_qwidths, .ref s_qnumbers])), (s_qsizes, .inl (cA 1, 4, .inl s_csizes)), (s_qnumbers, .inl (cA 2, 240, .inr (.inl s_cnumbers)))] := hD
  refine lv_iconst (v := 0) hx hb dX10_gather_5 (by decide) ?_
  refine lv_istore_n (lv' := [(2, .int 0), (0, .ref h0), (1, .int p0)]) hx hb dX10_gather_6 rfl hl (by decide) rfl (fun ls hl => ?_)
  refine loopW (σ := Int32 × (Nat → Int32) × Int32) (fun _ => []) (fun ⟨L2_155, F1_155, F2_155⟩ H locs ls => (0 ≤ L2_155.toInt ∧ L2_155.toInt ≤ 240) ∧ va_P D vwCl [(h0, .inr (10, [.int F2_155, .ref we_qfitted, .ref we_qsharing, .ref g, .ref sl])), (we_qfitted, .inl (cA 3, 240, .inl F1_155)), (g, .inr (3, [.int g_odds, .int g_pot, .int g_lines, .int g_men, .int g_clauses, .int g_winds, .int g_far0, .int g_far1, .ref g_qsides, .ref g_qgrips, .ref g_qwits, .ref g_qsays, .ref g_qgives0, .ref g_qgives1, .ref g_qfroms, .ref g_qtos])), (g_qgrips, .inl (cA 1, 8, .inl g_cgrips)), (g_qwits, .inl (cA 1, 8, .inl g_cwits)), (sl, .inr (7, [.ref s_qsizes, .ref s_qwidths, .ref s_qnumbers])), (s_qsizes, .inl (cA 1, 4, .inl s_csizes)), (s_qnumbers, .inl (cA 2, 240, .inr (.inl s_cnumbers)))] H ∧ va_D A [(h0, .inr (10, [.int F2_155, .ref we_qfitted, .ref we_qsharing, .ref g, .ref sl])), (we_qfitted, .inl (cA 3, 240, .inl F1_155)), (g, .inr (3, [.int g_odds, .int g_pot, .int g_lines, .int g_men, .int g_clauses, .int g_winds, .int g_far0, .int g_far1, .ref g_qsides, .ref g_qgrips, .ref g_qwits, .ref g_qsays, .ref g_qgives0, .ref g_qgives1, .ref g_qfroms, .ref g_qtos])), (g_qgrips, .inl (cA 1, 8, .inl g_cgrips)), (g_qwits, .inl (cA 1, 8, .inl g_cwits)), (sl, .inr (7, [.ref s_qsizes, .ref s_qwidths, .ref s_qnumbers])), (s_qsizes, .inl (cA 1, 4, .inl s_csizes)), (s_qnumbers, .inl (cA 2, 240, .inr (.inl s_cnumbers)))] ∧ va_S A s.heap H locs ∧ lv_has ls 3 [(2, .int L2_155), (0, .ref h0), (1, .int p0)]) (fun ⟨L2_155, F1_155, F2_155⟩ => (2147483647 - L2_155.toInt).toNat) ?_ ((0, we_cfitted, 0) : Int32 × (Nat → Int32) × Int32) ⟨(by decide), hP, hD, hS, hl⟩
  intro x_155 H locs ls hI_155 ih_155
  obtain ⟨L2_155, F1_155, F2_155⟩ := x_155
  obtain ⟨k0_155, hP, hD, hS, hl⟩ := hI_155
  have hP : va_P D vwCl [(h0, .inr (10, [.int F2_155, .ref we_qfitted, .ref we_qsharing, .ref g, .ref sl])), (we_qfitted, .inl (cA 3, 240, .inl F1_155)), (g, .inr (3, [.int g_odds, .int g_pot, .int g_lines, .int g_men, .int g_clauses, .int g_winds, .int g_far0, .int g_far1, .ref g_qsides, .ref g_qgrips, .ref g_qwits, .ref g_qsays, .ref g_qgives0, .ref g_qgives1, .ref g_qfroms, .ref g_qtos])), (g_qgrips, .inl (cA 1, 8, .inl g_cgrips)), (g_qwits, .inl (cA 1, 8, .inl g_cwits)), (sl, .inr (7, [.ref s_qsizes, .ref s_qwidths, .ref s_qnumbers])), (s_qsizes, .inl (cA 1, 4, .inl s_csizes)), (s_qnumbers, .inl (cA 2, 240, .inr (.inl s_cnumbers)))] H := hP
  have hD : va_D A [(h0, .inr (10, [.int F2_155, .ref we_qfitted, .ref we_qsharing, .ref g, .ref sl])), (we_qfitted, .inl (cA 3, 240, .inl F1_155)), (g, .inr (3, [.int g_odds, .int g_pot, .int g_lines, .int g_men, .int g_clauses, .int g_winds, .int g_far0, .int g_far1, .ref g_qsides, .ref g_qgrips, .ref g_qwits, .ref g_qsays, .ref g_qgives0, .ref g_qgives1, .ref g_qfroms, .ref g_qtos])), (g_qgrips, .inl (cA 1, 8, .inl g_cgrips)), (g_qwits, .inl (cA 1, 8, .inl g_cwits)), (sl, .inr (7, [.ref s_qsizes, .ref s_qwidths, .ref s_qnumbers])), (s_qsizes, .inl (cA 1, 4, .inl s_csizes)), (s_qnumbers, .inl (cA 2, 240, .inr (.inl s_cnumbers)))] := hD
  have hl : lv_has ls 3 [(2, .int L2_155), (0, .ref h0), (1, .int p0)] := hl
  refine lv_iload_n hx hb dX10_gather_7 rfl (lv_at hl 0 rfl) ?_
  refine lv_sipush (v := 240) hx hb dX10_gather_8 (by decide) ?_
  refine lv_icmp_ge (tgt := 58) hx hb dX10_gather_11 (by decide) (fun c_156 => ?_) (fun c_156 => ?_)
  · skip
    have k_157 := kk_le zi_240 rfl c_156
    have hP9 := hP.sub (ws' := [(h0, .inr (10, [.int F2_155, .ref we_qfitted, .ref we_qsharing, .ref g, .ref sl])), (we_qfitted, .inl (cA 3, 240, .inl F1_155)), (g, .inr (3, [.int g_odds, .int g_pot, .int g_lines, .int g_men, .int g_clauses, .int g_winds, .int g_far0, .int g_far1, .ref g_qsides, .ref g_qgrips, .ref g_qwits, .ref g_qsays, .ref g_qgives0, .ref g_qgives1, .ref g_qfroms, .ref g_qtos])), (g_qgrips, .inl (cA 1, 8, .inl g_cgrips)), (g_qwits, .inl (cA 1, 8, .inl g_cwits)), (sl, .inr (7, [.ref s_qsizes, .ref s_qwidths, .ref s_qnumbers])), (s_qsizes, .inl (cA 1, 4, .inl s_csizes)), (s_qnumbers, .inl (cA 2, 240, .inr (.inl s_cnumbers)))]) [0, 1, 2, 3, 4, 5, 6, 7] rfl
    have hD9 := hD.sub (ws' := [(h0, .inr (10, [.int F2_155, .ref we_qfitted, .ref we_qsharing, .ref g, .ref sl])), (we_qfitted, .inl (cA 3, 240, .inl F1_155)), (g, .inr (3, [.int g_odds, .int g_pot, .int g_lines, .int g_men, .int g_clauses, .int g_winds, .int g_far0, .int g_far1, .ref g_qsides, .ref g_qgrips, .ref g_qwits, .ref g_qsays, .ref g_qgives0, .ref g_qgives1, .ref g_qfroms, .ref g_qtos])), (g_qgrips, .inl (cA 1, 8, .inl g_cgrips)), (g_qwits, .inl (cA 1, 8, .inl g_cwits)), (sl, .inr (7, [.ref s_qsizes, .ref s_qwidths, .ref s_qnumbers])), (s_qsizes, .inl (cA 1, 4, .inl s_csizes)), (s_qnumbers, .inl (cA 2, 240, .inr (.inl s_cnumbers)))]) [0, 1, 2, 3, 4, 5, 6, 7] (by decide) rfl
    exact W.vret hx hb hr (fun t ht hW => ⟨⟨((fun _ => 0), (selI [F2_155]), (selF [F1_155]), (fun _ _ => 0)), rfl, trivial, by rw [ht]; exact hP9, hD9⟩, hS.F ht⟩) hS.2.2 dX10_gather_58
  · skip
    have k_158 := kk_nle zi_240 rfl c_156
    refine lv_aload_n hx hb dX10_gather_14 rfl (lv_at hl 1 rfl) ?_
    refine va_get (D := D) (ci := 10) (v := .ref we_qfitted) (C := RX10) (T := TX10) (N := 5) hx hb hts inX10 hown hKN.1 hP 0 rfl rfl 1 (by decide) (hts _ tw_449) (fun _ h9 => h9) rfl dX10_gather_15 ?_
    refine lv_iload_n hx hb dX10_gather_18 rfl (lv_at hl 0 rfl) ?_
    refine lv_aload_n hx hb dX10_gather_19 rfl (lv_at hl 1 rfl) ?_
    refine lv_iload_n hx hb dX10_gather_20 rfl (lv_at hl 2 rfl) ?_
    refine lv_iload_n hx hb dX10_gather_21 rfl (lv_at hl 0 rfl) ?_
    refine lv_bipush (v := 30) hx hb dX10_gather_22 (by decide) ?_
    refine lv_idiv hx hb dX10_gather_24 (by decide) ?_
    refine lv_topi (fun x_159 ex_159 => ?_)
    have k_160 := ar_div rfl zi_30 ex_159 (by omega) (by omega)
    refine lv_iload_n hx hb dX10_gather_25 rfl (lv_at hl 0 rfl) ?_
    refine lv_bipush (v := 30) hx hb dX10_gather_26 (by decide) ?_
    refine lv_irem hx hb dX10_gather_28 (by decide) ?_
    refine lv_topi (fun x_161 ex_161 => ?_)
    have k_162 := ar_rem rfl zi_30 ex_161 (by omega) (by omega)
    refine cpVi (rest := [.int L2_155, .ref we_qfitted]) ⟨hx, hb, hml, hown, hts⟩ hKN (hP.sub (ws' := [(h0, .inr (10, [.int F2_155, .ref we_qfitted, .ref we_qsharing, .ref g, .ref sl])), (g, .inr (3, [.int g_odds, .int g_pot, .int g_lines, .int g_men, .int g_clauses, .int g_winds, .int g_far0, .int g_far1, .ref g_qsides, .ref g_qgrips, .ref g_qwits, .ref g_qsays, .ref g_qgives0, .ref g_qgives1, .ref g_qfroms, .ref g_qtos])), (g_qgrips, .inl (cA 1, 8, .inl g_cgrips)), (g_qwits, .inl (cA 1, 8, .inl g_cwits)), (sl, .inr (7, [.ref s_qsizes, .ref s_qwidths, .ref s_qnumbers])), (s_qsizes, .inl (cA 1, 4, .inl s_csizes)), (s_qnumbers, .inl (cA 2, 240, .inr (.inl s_cnumbers)))]) [0, 2, 3, 4, 5, 6, 7] rfl) (g_X10_agrees l D cA h0 F2_155 we_qfitted we_qsharing g sl g_odds g_pot g_lines g_men g_clauses g_winds g_far0 g_far1 g_qsides g_qgrips g_qwits g_qsays g_qgives0 g_qgives1 g_qfroms g_qtos g_cgrips g_cwits s_qsizes s_qwidths s_qnumbers s_csizes s_cnumbers p0 x_159 x_161 (by omega) (by omega) (by omega) (by omega) (by omega) (by omega) (by omega) a_s_csizes_0) (tb_V tw_1200 tw_1202 tw_28 tw_113 tw_1203) hdX10_agrees ⟨rfl, rfl, Nat.le_of_ble_eq_true rfl, Nat.le_of_ble_eq_true rfl⟩ ⟨Nat.le_of_ble_eq_true rfl, Nat.le_of_ble_eq_true rfl⟩ rfl rfl rfl hl.1 rfl (Nat.le_of_ble_eq_true rfl) dX10_gather_29 (fun r_163 hr_163 => ?_)
    refine va_zast hx hb hKN.1 hP hD hS 1 3 rfl rfl (vp_in_iff.mpr ⟨by omega, by omega⟩) dX10_gather_32 (fun H locs hP hD hS => ?_)
    have hP : va_P D vwCl [(h0, .inr (10, [.int F2_155, .ref we_qfitted, .ref we_qsharing, .ref g, .ref sl])), (we_qfitted, .inl (cA 3, 240, .inl (upd F1_155 L2_155.toNatClampNeg (vp_nar .boolean r_163)))), (g, .inr (3, [.int g_odds, .int g_pot, .int g_lines, .int g_men, .int g_clauses, .int g_winds, .int g_far0, .int g_far1, .ref g_qsides, .ref g_qgrips, .ref g_qwits, .ref g_qsays, .ref g_qgives0, .ref g_qgives1, .ref g_qfroms, .ref g_qtos])), (g_qgrips, .inl (cA 1, 8, .inl g_cgrips)), (g_qwits, .inl (cA 1, 8, .inl g_cwits)), (sl, .inr (7, [.ref s_qsizes, .ref s_qwidths, .ref s_qnumbers])), (s_qsizes, .inl (cA 1, 4, .inl s_csizes)), (s_qnumbers, .inl (cA 2, 240, .inr (.inl s_cnumbers)))] H := hP
    have hD : va_D A [(h0, .inr (10, [.int F2_155, .ref we_qfitted, .ref we_qsharing, .ref g, .ref sl])), (we_qfitted, .inl (cA 3, 240, .inl (upd F1_155 L2_155.toNatClampNeg (vp_nar .boolean r_163)))), (g, .inr (3, [.int g_odds, .int g_pot, .int g_lines, .int g_men, .int g_clauses, .int g_winds, .int g_far0, .int g_far1, .ref g_qsides, .ref g_qgrips, .ref g_qwits, .ref g_qsays, .ref g_qgives0, .ref g_qgives1, .ref g_qfroms, .ref g_qtos])), (g_qgrips, .inl (cA 1, 8, .inl g_cgrips)), (g_qwits, .inl (cA 1, 8, .inl g_cwits)), (sl, .inr (7, [.ref s_qsizes, .ref s_qwidths, .ref s_qnumbers])), (s_qsizes, .inl (cA 1, 4, .inl s_csizes)), (s_qnumbers, .inl (cA 2, 240, .inr (.inl s_cnumbers)))] := hD
    generalize ef_164 : (upd F1_155 L2_155.toNatClampNeg (vp_nar .boolean r_163)) = f_164 at hP hD
    refine lv_aload_n hx hb dX10_gather_33 rfl (lv_at hl 1 rfl) ?_
    refine va_get (D := D) (ci := 10) (v := .ref we_qfitted) (C := RX10) (T := TX10) (N := 5) hx hb hts inX10 hown hKN.1 hP 0 rfl rfl 1 (by decide) (hts _ tw_449) (fun _ h9 => h9) rfl dX10_gather_34 ?_
    refine lv_iload_n hx hb dX10_gather_37 rfl (lv_at hl 0 rfl) ?_
    refine va_zald hx hb hKN.1 hP 1 3 rfl rfl (vp_in_iff.mpr ⟨by omega, by omega⟩) dX10_gather_38 ?_
    refine lv_topi (fun x_165 ex_165 => ?_)
    refine lv_if_eq (tgt := 52) hx hb dX10_gather_39 (by decide) (fun c_166 => ?_) (fun c_166 => ?_)
    · skip
      have b_168 := i32_bd x_165
      have k_167 := kk_eq rfl zi_0 c_166
      obtain ⟨x_169, ex_169⟩ : ∃ y : Int32, L2_155 + Int32.ofInt 1 = y := ⟨_, rfl⟩
      have k_170 := ar_add (b := 1) rfl zi_1 ex_169.symm (by omega) (by omega)
      refine lv_iinc (v := x_169) (lv' := [(2, .int x_169), (0, .ref h0), (1, .int p0)]) hx hb dX10_gather_52 hl (k := 0) rfl ex_169 (by decide) rfl (fun ls hl => ?_)
      refine lv_goto (tgt := 7) hx hb dX10_gather_55 (by decide) ?_
      exact ih_155 (x_169, f_164, F2_155) _ _ _ ⟨(show 0 ≤ x_169.toInt ∧ x_169.toInt ≤ 240 from by omega), hP.sub [0, 1, 2, 3, 4, 5, 6, 7] rfl, hD.sub [0, 1, 2, 3, 4, 5, 6, 7] (by decide) rfl, hS, lv_sub hl [0, 1, 2] rfl⟩ (by show (2147483647 - x_169.toInt).toNat < (2147483647 - L2_155.toInt).toNat; omega)
    · skip
      have b_172 := i32_bd x_165
      have k_171 := kk_ne rfl zi_0 c_166
      refine lv_aload_n hx hb dX10_gather_42 rfl (lv_at hl 1 rfl) ?_
      refine lv_dup hx hb dX10_gather_43 rfl ?_
      refine va_get (D := D) (ci := 10) (v := .int F2_155) (C := RX10) (T := TX10) (N := 5) hx hb hts inX10 hown hKN.1 hP 0 rfl rfl 0 (by decide) (hts _ tw_447) (fun _ h9 => h9) rfl dX10_gather_44 ?_
      refine lv_iconst (v := 1) hx hb dX10_gather_47 (by decide) ?_
      refine lv_iadd hx hb dX10_gather_48 ?_
      refine lv_topi (fun x_173 ex_173 => ?_)
      refine va_put (D := D) (ci := 10) (v := .int x_173) (ty := .int) (C := RX10) (T := TX10) (N := 5) hx hb hts inX10 tyX10 tyX10_ok nmX10 hown hKN.1 hP hD hS 0 rfl rfl 0 (by decide) (hts _ tw_447) (fun _ h9 => h9) rfl (by decide +kernel) rfl rfl (Nat.le_of_ble_eq_true rfl) dX10_gather_49 (fun H locs hP hD hS => ?_)
      have hP : va_P D vwCl [(h0, .inr (10, [.int x_173, .ref we_qfitted, .ref we_qsharing, .ref g, .ref sl])), (we_qfitted, .inl (cA 3, 240, .inl f_164)), (g, .inr (3, [.int g_odds, .int g_pot, .int g_lines, .int g_men, .int g_clauses, .int g_winds, .int g_far0, .int g_far1, .ref g_qsides, .ref g_qgrips, .ref g_qwits, .ref g_qsays, .ref g_qgives0, .ref g_qgives1, .ref g_qfroms, .ref g_qtos])), (g_qgrips, .inl (cA 1, 8, .inl g_cgrips)), (g_qwits, .inl (cA 1, 8, .inl g_cwits)), (sl, .inr (7, [.ref s_qsizes, .ref s_qwidths, .ref s_qnumbers])), (s_qsizes, .inl (cA 1, 4, .inl s_csizes)), (s_qnumbers, .inl (cA 2, 240, .inr (.inl s_cnumbers)))] H := hP
      have hD : va_D A [(h0, .inr (10, [.int x_173, .ref we_qfitted, .ref we_qsharing, .ref g, .ref sl])), (we_qfitted, .inl (cA 3, 240, .inl f_164)), (g, .inr (3, [.int g_odds, .int g_pot, .int g_lines, .int g_men, .int g_clauses, .int g_winds, .int g_far0, .int g_far1, .ref g_qsides, .ref g_qgrips, .ref g_qwits, .ref g_qsays, .ref g_qgives0, .ref g_qgives1, .ref g_qfroms, .ref g_qtos])), (g_qgrips, .inl (cA 1, 8, .inl g_cgrips)), (g_qwits, .inl (cA 1, 8, .inl g_cwits)), (sl, .inr (7, [.ref s_qsizes, .ref s_qwidths, .ref s_qnumbers])), (s_qsizes, .inl (cA 1, 4, .inl s_csizes)), (s_qnumbers, .inl (cA 2, 240, .inr (.inl s_cnumbers)))] := hD
      obtain ⟨x_175, ex_175⟩ : ∃ y : Int32, L2_155 + Int32.ofInt 1 = y := ⟨_, rfl⟩
      have k_176 := ar_add (b := 1) rfl zi_1 ex_175.symm (by omega) (by omega)
      refine lv_iinc (v := x_175) (lv' := [(2, .int x_175), (0, .ref h0), (1, .int p0)]) hx hb dX10_gather_52 hl (k := 0) rfl ex_175 (by decide) rfl (fun ls hl => ?_)
      refine lv_goto (tgt := 7) hx hb dX10_gather_55 (by decide) ?_
      exact ih_155 (x_175, f_164, x_173) _ _ _ ⟨(show 0 ≤ x_175.toInt ∧ x_175.toInt ≤ 240 from by omega), hP.sub [0, 1, 2, 3, 4, 5, 6, 7] rfl, hD.sub [0, 1, 2, 3, 4, 5, 6, 7] (by decide) rfl, hS, lv_sub hl [0, 1, 2] rfl⟩ (by show (2147483647 - x_175.toInt).toNat < (2147483647 - L2_155.toInt).toNat; omega)
set_option maxHeartbeats 8000000 in
set_option maxRecDepth 100000 in
theorem g_X10_leastLoss (l : Launch) (D : va_G) (cA : Nat → ClassId) (h0 : Nat) (we_fitting : Int32) (we_qfitted : Nat) (we_qsharing : Nat) (g : Nat) (sl : Nat) (we_cfitted : Nat → Int32) (g_odds : Int32) (g_pot : Int32) (g_lines : Int32) (g_men : Int32) (g_clauses : Int32) (g_winds : Int32) (g_far0 : Int32) (g_far1 : Int32) (g_qsides : Nat) (g_qgrips : Nat) (g_qwits : Nat) (g_qsays : Nat) (g_qgives0 : Nat) (g_qgives1 : Nat) (g_qfroms : Nat) (g_qtos : Nat) (p0 : Int32) (h_g_odds : -999 ≤ (g_odds : Int32).toInt ∧ (g_odds : Int32).toInt ≤ 999) (h_g_pot : -999 ≤ (g_pot : Int32).toInt ∧ (g_pot : Int32).toInt ≤ 999) (h_g_men : 0 ≤ (g_men : Int32).toInt ∧ (g_men : Int32).toInt ≤ 8) (h_g_clauses : 0 ≤ (g_clauses : Int32).toInt ∧ (g_clauses : Int32).toInt ≤ 7) (h_g_winds : 0 ≤ (g_winds : Int32).toInt ∧ (g_winds : Int32).toInt ≤ 4) (h_g_far0 : -999 ≤ (g_far0 : Int32).toInt ∧ (g_far0 : Int32).toInt ≤ 999) (h_g_far1 : -999 ≤ (g_far1 : Int32).toInt ∧ (g_far1 : Int32).toInt ≤ 999) : Met l yX10_leastLoss (Cond.code yX10_leastLoss cX10_leastLoss 3 (some .int) :: TB) (rmd 1 0 0) (PP D cA [(h0, .inr (10, [.int we_fitting, .ref we_qfitted, .ref we_qsharing, .ref g, .ref sl])), (we_qfitted, .inl (cA 3, 240, .inl we_cfitted)), (g, .inr (3, [.int g_odds, .int g_pot, .int g_lines, .int g_men, .int g_clauses, .int g_winds, .int g_far0, .int g_far1, .ref g_qsides, .ref g_qgrips, .ref g_qwits, .ref g_qsays, .ref g_qgives0, .ref g_qgives1, .ref g_qfroms, .ref g_qtos]))] [.ref h0, .int p0]) (vp_Si (fun r => -1 ≤ r.toInt ∧ r.toInt ≤ 29)) 0 0 (fun _ => False) := by
  refine Met.ofW (cc := cX10_leastLoss) (maxL := 3) (ret := (some .int)) (by decide) rfl ?_
  intro p e s m args below meth c s₁ B hml hv
  obtain ⟨rfl, hP, hKN⟩ := hv
  have hx := B.exec
  have hb := B.bytes
  have hr := B.returns
  have hts : ∀ w ∈ TB, w.before _ s = true := fun w h => atoms_spec B.pre w (List.mem_cons_of_mem _ h)
  have hown : s.vm.findClass RX10 = some m.cls := findClass_of_methodNamed B.named
  have hlocks := B.notSynchronized
  have hl := lv_entry ([.ref h0, .int p0]) (n := 3) (Nat.le_of_ble_eq_true rfl)
  rw [lg_entry_eq]
  generalize (lg_sl ([.ref h0, .int p0]) ++ List.replicate (3 - (lg_sl ([.ref h0, .int p0])).length) Slot.unset).toArray = ls at hl ⊢
  have hl : lv_has ls 3 [(0, .ref h0), (1, .int p0)] := hl
  refine lv_aload_n hx hb dX10_leastLoss_0 rfl (lv_at hl 0 rfl) ?_
  refine va_get (D := D) (ci := 10) (v := .ref g) (C := RX10) (T := TX10) (N := 5) hx hb hts inX10 hown hKN.1 hP 0 rfl rfl 3 (by decide) (hts _ tw_451) (fun _ h9 => h9) rfl dX10_leastLoss_1 ?_
  refine lv_iload_n hx hb dX10_leastLoss_4 rfl (lv_at hl 1 rfl) ?_
  refine cpVi (rest := []) ⟨hx, hb, hml, hown, hts⟩ hKN (hP.sub (ws' := [(g, .inr (3, [.int g_odds, .int g_pot, .int g_lines, .int g_men, .int g_clauses, .int g_winds, .int g_far0, .int g_far1, .ref g_qsides, .ref g_qgrips, .ref g_qwits, .ref g_qsays, .ref g_qgives0, .ref g_qgives1, .ref g_qfroms, .ref g_qtos]))]) [2] rfl) (g_X3_hasMan l D cA g g_odds g_pot g_lines g_men g_clauses g_winds g_far0 g_far1 g_qsides g_qgrips g_qwits g_qsays g_qgives0 g_qgives1 g_qfroms g_qtos p0 (by omega) (by omega) (by omega) (by omega) (by omega) (by omega) (by omega)) (tb_V tw_1219 tw_699 tw_700 tw_104 tw_701) hdX3_hasMan ⟨rfl, rfl, Nat.le_of_ble_eq_true rfl, Nat.le_of_ble_eq_true rfl⟩ ⟨Nat.le_of_ble_eq_true rfl, Nat.le_of_ble_eq_true rfl⟩ rfl rfl rfl hl.1 rfl (Nat.le_of_ble_eq_true rfl) dX10_leastLoss_5 (fun r_1 hr_1 => ?_)
  rcases hr_1 with ⟨k_1_0_0, k_1_0_1, k_1_0_2, rfl⟩ | rfl
  · skip
    refine lv_if_ne (tgt := 13) hx hb dX10_leastLoss_8 (by decide) (fun c_2 => ?_) (fun c_2 => absurd c_2 (by decide))
    refine lv_iconst (v := 1) hx hb dX10_leastLoss_13 (by decide) ?_
    refine lv_istore_n (lv' := [(2, .int 1), (0, .ref h0), (1, .int p0)]) hx hb dX10_leastLoss_14 rfl hl (by decide) rfl (fun ls hl => ?_)
    refine loopW (σ := Int32) (fun _ => []) (fun L2_83 H locs ls => (1 ≤ L2_83.toInt ∧ L2_83.toInt ≤ 30) ∧ H = s.heap ∧ locs = [] ∧ lv_has ls 3 [(2, .int L2_83), (0, .ref h0), (1, .int p0)]) (fun L2_83 => (2147483647 - L2_83.toInt).toNat) ?_ (1 : Int32) ⟨(by decide), rfl, rfl, hl⟩
    intro x_83 H locs ls hI_83 ih_83
    obtain ⟨L2_83, rfl⟩ : ∃ z, z = x_83 := ⟨_, rfl⟩
    obtain ⟨k0_83, rfl, rfl, hl⟩ := hI_83
    have hl : lv_has ls 3 [(2, .int L2_83), (0, .ref h0), (1, .int p0)] := hl
    refine lv_iload_n hx hb dX10_leastLoss_15 rfl (lv_at hl 0 rfl) ?_
    refine lv_bipush (v := 30) hx hb dX10_leastLoss_16 (by decide) ?_
    refine lv_icmp_ge (tgt := 43) hx hb dX10_leastLoss_18 (by decide) (fun c_84 => ?_) (fun c_84 => ?_)
    · skip
      have k_85 := kk_le zi_30 rfl c_84
      refine lv_iconst (v := (-1)) hx hb dX10_leastLoss_43 (by decide) ?_
      exact W.iret (v := (-1)) hx hb hr (fun t ht hW => ⟨(-1), rfl, (show -1 ≤ ((-1) : Int32).toInt ∧ ((-1) : Int32).toInt ≤ 29 from by decide), ht⟩) (fun _ h => by cases h) dX10_leastLoss_44
    · skip
      have k_86 := kk_nle zi_30 rfl c_84
      refine lv_aload_n hx hb dX10_leastLoss_21 rfl (lv_at hl 1 rfl) ?_
      refine va_get (D := D) (ci := 10) (v := .ref we_qfitted) (C := RX10) (T := TX10) (N := 5) hx hb hts inX10 hown hKN.1 hP 0 rfl rfl 1 (by decide) (hts _ tw_449) (fun _ h9 => h9) rfl dX10_leastLoss_22 ?_
      refine lv_iload_n hx hb dX10_leastLoss_25 rfl (lv_at hl 2 rfl) ?_
      refine lv_bipush (v := 30) hx hb dX10_leastLoss_26 (by decide) ?_
      refine lv_imul hx hb dX10_leastLoss_28 ?_
      refine lv_topi (fun x_87 ex_87 => ?_)
      have k_88 := ar_mul rfl zi_30 ex_87 (by omega) (by omega)
      refine lv_iload_n hx hb dX10_leastLoss_29 rfl (lv_at hl 0 rfl) ?_
      refine lv_iadd hx hb dX10_leastLoss_30 ?_
      refine lv_topi (fun x_89 ex_89 => ?_)
      have k_90 := ar_add rfl rfl ex_89 (by omega) (by omega)
      refine va_zald hx hb hKN.1 hP 1 3 rfl rfl (vp_in_iff.mpr ⟨by omega, by omega⟩) dX10_leastLoss_31 ?_
      refine lv_topi (fun x_91 ex_91 => ?_)
      refine lv_if_eq (tgt := 37) hx hb dX10_leastLoss_32 (by decide) (fun c_92 => ?_) (fun c_92 => ?_)
      · skip
        have b_94 := i32_bd x_91
        have k_93 := kk_eq rfl zi_0 c_92
        obtain ⟨x_95, ex_95⟩ : ∃ y : Int32, L2_83 + Int32.ofInt 1 = y := ⟨_, rfl⟩
        have k_96 := ar_add (b := 1) rfl zi_1 ex_95.symm (by omega) (by omega)
        refine lv_iinc (v := x_95) (lv' := [(2, .int x_95), (0, .ref h0), (1, .int p0)]) hx hb dX10_leastLoss_37 hl (k := 0) rfl ex_95 (by decide) rfl (fun ls hl => ?_)
        refine lv_goto (tgt := 15) hx hb dX10_leastLoss_40 (by decide) ?_
        exact ih_83 (x_95) _ _ _ ⟨(show 1 ≤ x_95.toInt ∧ x_95.toInt ≤ 30 from by omega), rfl, rfl, lv_sub hl [0, 1, 2] rfl⟩ (by show (2147483647 - x_95.toInt).toNat < (2147483647 - L2_83.toInt).toNat; omega)
      · skip
        have b_98 := i32_bd x_91
        have k_97 := kk_ne rfl zi_0 c_92
        refine lv_iload_n hx hb dX10_leastLoss_35 rfl (lv_at hl 0 rfl) ?_
        exact W.iret (v := L2_83) hx hb hr (fun t ht hW => ⟨L2_83, rfl, (show -1 ≤ L2_83.toInt ∧ L2_83.toInt ≤ 29 from by omega), ht⟩) (fun _ h => by cases h) dX10_leastLoss_36
  · skip
    refine lv_if_ne (tgt := 13) hx hb dX10_leastLoss_8 (by decide) (fun c_99 => absurd (by decide) c_99) (fun c_99 => ?_)
    refine lv_iconst (v := (-1)) hx hb dX10_leastLoss_11 (by decide) ?_
    exact W.iret (v := (-1)) hx hb hr (fun t ht hW => ⟨(-1), rfl, (show -1 ≤ ((-1) : Int32).toInt ∧ ((-1) : Int32).toInt ≤ 29 from by decide), ht⟩) (fun _ h => by cases h) dX10_leastLoss_12
set_option maxHeartbeats 8000000 in
set_option maxRecDepth 100000 in
theorem g_X10_mostLeft (l : Launch) (D : va_G) (cA : Nat → ClassId) (sz : Nat) (h0 : Nat) (we_fitting : Int32) (we_qfitted : Nat) (we_qsharing : Nat) (g : Nat) (sl : Nat) (we_cfitted : Nat → Int32) (we_csharing : Nat → Int32) (g_odds : Int32) (g_pot : Int32) (g_lines : Int32) (g_men : Int32) (g_clauses : Int32) (g_winds : Int32) (g_far0 : Int32) (g_far1 : Int32) (g_qsides : Nat) (g_qgrips : Nat) (g_qwits : Nat) (g_qsays : Nat) (g_qgives0 : Nat) (g_qgives1 : Nat) (g_qfroms : Nat) (g_qtos : Nat) (g_cgrips : Nat → Int32) (g_cwits : Nat → Int32) (p0 : Int32) (p1 : Int32) (h_g_odds : -999 ≤ (g_odds : Int32).toInt ∧ (g_odds : Int32).toInt ≤ 999) (h_g_pot : -999 ≤ (g_pot : Int32).toInt ∧ (g_pot : Int32).toInt ≤ 999) (h_g_men : 0 ≤ (g_men : Int32).toInt ∧ (g_men : Int32).toInt ≤ 8) (h_g_clauses : 0 ≤ (g_clauses : Int32).toInt ∧ (g_clauses : Int32).toInt ≤ 7) (h_g_winds : 0 ≤ (g_winds : Int32).toInt ∧ (g_winds : Int32).toInt ≤ 4) (h_g_far0 : -999 ≤ (g_far0 : Int32).toInt ∧ (g_far0 : Int32).toInt ≤ 999) (h_g_far1 : -999 ≤ (g_far1 : Int32).toInt ∧ (g_far1 : Int32).toInt ≤ 999) : Met l yX10_mostLeft (Cond.code yX10_mostLeft cX10_mostLeft 6 (some .int) :: TB) (rmd 3 0 0) (PM D cA sz [(h0, .inr (10, [.int we_fitting, .ref we_qfitted, .ref we_qsharing, .ref g, .ref sl])), (we_qfitted, .inl (cA 3, 240, .inl we_cfitted)), (we_qsharing, .inl (cA 1, 40, .inl we_csharing)), (g, .inr (3, [.int g_odds, .int g_pot, .int g_lines, .int g_men, .int g_clauses, .int g_winds, .int g_far0, .int g_far1, .ref g_qsides, .ref g_qgrips, .ref g_qwits, .ref g_qsays, .ref g_qgives0, .ref g_qgives1, .ref g_qfroms, .ref g_qtos])), (g_qgrips, .inl (cA 1, 8, .inl g_cgrips)), (g_qwits, .inl (cA 1, 8, .inl g_cwits))] [.ref h0, .int p0, .int p1]) (va_Qi (fun r (u : SU) => (0 ≤ r.toInt)) (fun u t => va_P D vwCl [(h0, .inr (10, [.int we_fitting, .ref we_qfitted, .ref we_qsharing, .ref g, .ref sl])), (we_qfitted, .inl (cA 3, 240, .inl we_cfitted)), (we_qsharing, .inl (cA 1, 40, .inl (u.2.2.1 0))), (g, .inr (3, [.int g_odds, .int g_pot, .int g_lines, .int g_men, .int g_clauses, .int g_winds, .int g_far0, .int g_far1, .ref g_qsides, .ref g_qgrips, .ref g_qwits, .ref g_qsays, .ref g_qgives0, .ref g_qgives1, .ref g_qfroms, .ref g_qtos])), (g_qgrips, .inl (cA 1, 8, .inl g_cgrips)), (g_qwits, .inl (cA 1, 8, .inl g_cwits))] t.heap ∧ va_D (va_A [(h0, .inr (10, [.int we_fitting, .ref we_qfitted, .ref we_qsharing, .ref g, .ref sl])), (we_qfitted, .inl (cA 3, 240, .inl we_cfitted)), (we_qsharing, .inl (cA 1, 40, .inl we_csharing)), (g, .inr (3, [.int g_odds, .int g_pot, .int g_lines, .int g_men, .int g_clauses, .int g_winds, .int g_far0, .int g_far1, .ref g_qsides, .ref g_qgrips, .ref g_qwits, .ref g_qsays, .ref g_qgives0, .ref g_qgives1, .ref g_qfroms, .ref g_qtos])), (g_qgrips, .inl (cA 1, 8, .inl g_cgrips)), (g_qwits, .inl (cA 1, 8, .inl g_cwits))] sz) [(h0, .inr (10, [.int we_fitting, .ref we_qfitted, .ref we_qsharing, .ref g, .ref sl])), (we_qfitted, .inl (cA 3, 240, .inl we_cfitted)), (we_qsharing, .inl (cA 1, 40, .inl (u.2.2.1 0))), (g, .inr (3, [.int g_odds, .int g_pot, .int g_lines, .int g_men, .int g_clauses, .int g_winds, .int g_far0, .int g_far1, .ref g_qsides, .ref g_qgrips, .ref g_qwits, .ref g_qsays, .ref g_qgives0, .ref g_qgives1, .ref g_qfroms, .ref g_qtos])), (g_qgrips, .inl (cA 1, 8, .inl g_cgrips)), (g_qwits, .inl (cA 1, 8, .inl g_cwits))]) (va_A [(h0, .inr (10, [.int we_fitting, .ref we_qfitted, .ref we_qsharing, .ref g, .ref sl])), (we_qfitted, .inl (cA 3, 240, .inl we_cfitted)), (we_qsharing, .inl (cA 1, 40, .inl we_csharing)), (g, .inr (3, [.int g_odds, .int g_pot, .int g_lines, .int g_men, .int g_clauses, .int g_winds, .int g_far0, .int g_far1, .ref g_qsides, .ref g_qgrips, .ref g_qwits, .ref g_qsays, .ref g_qgives0, .ref g_qgives1, .ref g_qfroms, .ref g_qtos])), (g_qgrips, .inl (cA 1, 8, .inl g_cgrips)), (g_qwits, .inl (cA 1, 8, .inl g_cwits))] sz)) 0 0 (va_A [(h0, .inr (10, [.int we_fitting, .ref we_qfitted, .ref we_qsharing, .ref g, .ref sl])), (we_qfitted, .inl (cA 3, 240, .inl we_cfitted)), (we_qsharing, .inl (cA 1, 40, .inl we_csharing)), (g, .inr (3, [.int g_odds, .int g_pot, .int g_lines, .int g_men, .int g_clauses, .int g_winds, .int g_far0, .int g_far1, .ref g_qsides, .ref g_qgrips, .ref g_qwits, .ref g_qsays, .ref g_qgives0, .ref g_qgives1, .ref g_qfroms, .ref g_qtos])), (g_qgrips, .inl (cA 1, 8, .inl g_cgrips)), (g_qwits, .inl (cA 1, 8, .inl g_cwits))] sz) := by
  refine Met.ofW (cc := cX10_mostLeft) (maxL := 6) (ret := (some .int)) (by decide) rfl ?_
  intro p e s m args below meth c s₁ B hml hv
  obtain ⟨rfl, hsz, hP, hKN, hD0⟩ := hv
  have hx := B.exec
  have hb := B.bytes
  have hr := B.returns
  have hts : ∀ w ∈ TB, w.before _ s = true := fun w h => atoms_spec B.pre w (List.mem_cons_of_mem _ h)
  have hown : s.vm.findClass RX10 = some m.cls := findClass_of_methodNamed B.named
  have hlocks := B.notSynchronized
  subst hsz
  have hD := hD0.self (sz := s.heap.size)
  generalize hAe : va_A [(h0, .inr (10, [.int we_fitting, .ref we_qfitted, .ref we_qsharing, .ref g, .ref sl])), (we_qfitted, .inl (cA 3, 240, .inl we_cfitted)), (we_qsharing, .inl (cA 1, 40, .inl we_csharing)), (g, .inr (3, [.int g_odds, .int g_pot, .int g_lines, .int g_men, .int g_clauses, .int g_winds, .int g_far0, .int g_far1, .ref g_qsides, .ref g_qgrips, .ref g_qwits, .ref g_qsays, .ref g_qgives0, .ref g_qgives1, .ref g_qfroms, .ref g_qtos])), (g_qgrips, .inl (cA 1, 8, .inl g_cgrips)), (g_qwits, .inl (cA 1, 8, .inl g_cwits))] s.heap.size = A at hD ⊢
  have hA : ∀ q : Nat, s.heap.size ≤ q → A q := fun q h => by rw [← hAe]; exact Or.inr h
  have hS : va_S A s.heap s.heap [] := va_S.rf
  have hl := lv_entry ([.ref h0, .int p0, .int p1]) (n := 6) (Nat.le_of_ble_eq_true rfl)
  rw [lg_entry_eq]
  generalize (lg_sl ([.ref h0, .int p0, .int p1]) ++ List.replicate (6 - (lg_sl ([.ref h0, .int p0, .int p1])).length) Slot.unset).toArray = ls at hl ⊢
  have hl : lv_has ls 6 [(0, .ref h0), (1, .int p0), (2, .int p1)] := hl
  refine lv_aload_n hx hb dX10_mostLeft_0 rfl (lv_at hl 0 rfl) ?_
  refine va_get (D := D) (ci := 10) (v := .ref we_qsharing) (C := RX10) (T := TX10) (N := 5) hx hb hts inX10 hown hKN.1 hP 0 rfl rfl 2 (by decide) (hts _ tw_450) (fun _ h9 => h9) rfl dX10_mostLeft_1 ?_
  refine lv_iconst (v := 0) hx hb dX10_mostLeft_4 (by decide) ?_
  have z_1 := zi_0
  refine cmSv (rest := []) (wsC := [(we_qsharing, .inl (cA 1, 40, .inl we_csharing))]) (wr := [(h0, .inr (10, [.int we_fitting, .ref we_qfitted, .ref we_qsharing, .ref g, .ref sl])), (we_qfitted, .inl (cA 3, 240, .inl we_cfitted)), (g, .inr (3, [.int g_odds, .int g_pot, .int g_lines, .int g_men, .int g_clauses, .int g_winds, .int g_far0, .int g_far1, .ref g_qsides, .ref g_qgrips, .ref g_qwits, .ref g_qsays, .ref g_qgives0, .ref g_qgives1, .ref g_qfroms, .ref g_qtos])), (g_qgrips, .inl (cA 1, 8, .inl g_cgrips)), (g_qwits, .inl (cA 1, 8, .inl g_cwits))]) ⟨hx, hb, hml, hown, hts⟩ hKN hP hD hS hA [2] [0, 1, 3, 4, 5] rfl rfl (by decide) (by decide) (by decide) (g_J7_fill_53178_40 l D cA _ we_qsharing we_csharing 0) (tb_S tw_1236 tw_341 tw_108 tw_342) hdJ7_fill_53178 ⟨rfl, rfl, Nat.le_of_ble_eq_true rfl, Nat.le_of_ble_eq_true rfl⟩ ⟨Nat.le_of_ble_eq_true rfl, Nat.le_of_ble_eq_true rfl⟩ rfl hl.1 rfl (Nat.le_of_ble_eq_true rfl) dX10_mostLeft_5 (fun u_2 H locs hr_2 hP hD hS => ?_)
  have hP : va_P D vwCl [(h0, .inr (10, [.int we_fitting, .ref we_qfitted, .ref we_qsharing, .ref g, .ref sl])), (we_qfitted, .inl (cA 3, 240, .inl we_cfitted)), (g, .inr (3, [.int g_odds, .int g_pot, .int g_lines, .int g_men, .int g_clauses, .int g_winds, .int g_far0, .int g_far1, .ref g_qsides, .ref g_qgrips, .ref g_qwits, .ref g_qsays, .ref g_qgives0, .ref g_qgives1, .ref g_qfroms, .ref g_qtos])), (g_qgrips, .inl (cA 1, 8, .inl g_cgrips)), (g_qwits, .inl (cA 1, 8, .inl g_cwits)), (we_qsharing, .inl (cA 1, 40, .inl (u_2.2.2.1 0)))] H := hP
  have hD : va_D A [(h0, .inr (10, [.int we_fitting, .ref we_qfitted, .ref we_qsharing, .ref g, .ref sl])), (we_qfitted, .inl (cA 3, 240, .inl we_cfitted)), (g, .inr (3, [.int g_odds, .int g_pot, .int g_lines, .int g_men, .int g_clauses, .int g_winds, .int g_far0, .int g_far1, .ref g_qsides, .ref g_qgrips, .ref g_qwits, .ref g_qsays, .ref g_qgives0, .ref g_qgives1, .ref g_qfroms, .ref g_qtos])), (g_qgrips, .inl (cA 1, 8, .inl g_cgrips)), (g_qwits, .inl (cA 1, 8, .inl g_cwits)), (we_qsharing, .inl (cA 1, 40, .inl (u_2.2.2.1 0)))] := hD
  refine lv_iconst (v := 0) hx hb dX10_mostLeft_8 (by decide) ?_
  refine lv_istore_n (lv' := [(3, .int 0), (0, .ref h0), (1, .int p0), (2, .int p1)]) hx hb dX10_mostLeft_9 rfl hl (by decide) rfl (fun ls hl => ?_)
  refine lv_iconst (v := 0) hx hb dX10_mostLeft_10 (by decide) ?_
  refine lv_istore (lv' := [(4, .int 0), (3, .int 0), (0, .ref h0), (1, .int p0), (2, .int p1)]) hx hb dX10_mostLeft_11 hl (by decide) rfl (fun ls hl => ?_)
  refine loopW (σ := Int32 × Int32 × (Nat → Int32)) (fun _ => []) (fun ⟨L4_225, L3_225, F2_225⟩ H locs ls => (0 ≤ L4_225.toInt ∧ L4_225.toInt ≤ 240) ∧ (0 ≤ L3_225.toInt) ∧ va_P D vwCl [(h0, .inr (10, [.int we_fitting, .ref we_qfitted, .ref we_qsharing, .ref g, .ref sl])), (we_qfitted, .inl (cA 3, 240, .inl we_cfitted)), (g, .inr (3, [.int g_odds, .int g_pot, .int g_lines, .int g_men, .int g_clauses, .int g_winds, .int g_far0, .int g_far1, .ref g_qsides, .ref g_qgrips, .ref g_qwits, .ref g_qsays, .ref g_qgives0, .ref g_qgives1, .ref g_qfroms, .ref g_qtos])), (g_qgrips, .inl (cA 1, 8, .inl g_cgrips)), (g_qwits, .inl (cA 1, 8, .inl g_cwits)), (we_qsharing, .inl (cA 1, 40, .inl F2_225))] H ∧ va_D A [(h0, .inr (10, [.int we_fitting, .ref we_qfitted, .ref we_qsharing, .ref g, .ref sl])), (we_qfitted, .inl (cA 3, 240, .inl we_cfitted)), (g, .inr (3, [.int g_odds, .int g_pot, .int g_lines, .int g_men, .int g_clauses, .int g_winds, .int g_far0, .int g_far1, .ref g_qsides, .ref g_qgrips, .ref g_qwits, .ref g_qsays, .ref g_qgives0, .ref g_qgives1, .ref g_qfroms, .ref g_qtos])), (g_qgrips, .inl (cA 1, 8, .inl g_cgrips)), (g_qwits, .inl (cA 1, 8, .inl g_cwits)), (we_qsharing, .inl (cA 1, 40, .inl F2_225))] ∧ va_S A s.heap H locs ∧ lv_has ls 6 [(4, .int L4_225), (3, .int L3_225), (0, .ref h0), (1, .int p0), (2, .int p1)]) (fun ⟨L4_225, L3_225, F2_225⟩ => (2147483647 - L4_225.toInt).toNat) ?_ ((0, 0, (u_2.2.2.1 0)) : Int32 × Int32 × (Nat → Int32)) ⟨(by decide), (by decide), hP, hD, hS, hl⟩
  intro x_225 H locs ls hI_225 ih_225
  obtain ⟨L4_225, L3_225, F2_225⟩ := x_225
  obtain ⟨k0_225, k1_225, hP, hD, hS, hl⟩ := hI_225
  have hP : va_P D vwCl [(h0, .inr (10, [.int we_fitting, .ref we_qfitted, .ref we_qsharing, .ref g, .ref sl])), (we_qfitted, .inl (cA 3, 240, .inl we_cfitted)), (g, .inr (3, [.int g_odds, .int g_pot, .int g_lines, .int g_men, .int g_clauses, .int g_winds, .int g_far0, .int g_far1, .ref g_qsides, .ref g_qgrips, .ref g_qwits, .ref g_qsays, .ref g_qgives0, .ref g_qgives1, .ref g_qfroms, .ref g_qtos])), (g_qgrips, .inl (cA 1, 8, .inl g_cgrips)), (g_qwits, .inl (cA 1, 8, .inl g_cwits)), (we_qsharing, .inl (cA 1, 40, .inl F2_225))] H := hP
  have hD : va_D A [(h0, .inr (10, [.int we_fitting, .ref we_qfitted, .ref we_qsharing, .ref g, .ref sl])), (we_qfitted, .inl (cA 3, 240, .inl we_cfitted)), (g, .inr (3, [.int g_odds, .int g_pot, .int g_lines, .int g_men, .int g_clauses, .int g_winds, .int g_far0, .int g_far1, .ref g_qsides, .ref g_qgrips, .ref g_qwits, .ref g_qsays, .ref g_qgives0, .ref g_qgives1, .ref g_qfroms, .ref g_qtos])), (g_qgrips, .inl (cA 1, 8, .inl g_cgrips)), (g_qwits, .inl (cA 1, 8, .inl g_cwits)), (we_qsharing, .inl (cA 1, 40, .inl F2_225))] := hD
  have hl : lv_has ls 6 [(4, .int L4_225), (3, .int L3_225), (0, .ref h0), (1, .int p0), (2, .int p1)] := hl
  refine lv_iload hx hb dX10_mostLeft_13 (lv_at hl 0 rfl) ?_
  refine lv_sipush (v := 240) hx hb dX10_mostLeft_15 (by decide) ?_
  refine lv_icmp_ge (tgt := 90) hx hb dX10_mostLeft_18 (by decide) (fun c_226 => ?_) (fun c_226 => ?_)
  · skip
    have k_227 := kk_le zi_240 rfl c_226
    refine lv_iload_n hx hb dX10_mostLeft_90 rfl (lv_at hl 1 rfl) ?_
    have hP9 := hP.sub (ws' := [(h0, .inr (10, [.int we_fitting, .ref we_qfitted, .ref we_qsharing, .ref g, .ref sl])), (we_qfitted, .inl (cA 3, 240, .inl we_cfitted)), (we_qsharing, .inl (cA 1, 40, .inl F2_225)), (g, .inr (3, [.int g_odds, .int g_pot, .int g_lines, .int g_men, .int g_clauses, .int g_winds, .int g_far0, .int g_far1, .ref g_qsides, .ref g_qgrips, .ref g_qwits, .ref g_qsays, .ref g_qgives0, .ref g_qgives1, .ref g_qfroms, .ref g_qtos])), (g_qgrips, .inl (cA 1, 8, .inl g_cgrips)), (g_qwits, .inl (cA 1, 8, .inl g_cwits))]) [0, 1, 5, 2, 3, 4] rfl
    have hD9 := hD.sub (ws' := [(h0, .inr (10, [.int we_fitting, .ref we_qfitted, .ref we_qsharing, .ref g, .ref sl])), (we_qfitted, .inl (cA 3, 240, .inl we_cfitted)), (we_qsharing, .inl (cA 1, 40, .inl F2_225)), (g, .inr (3, [.int g_odds, .int g_pot, .int g_lines, .int g_men, .int g_clauses, .int g_winds, .int g_far0, .int g_far1, .ref g_qsides, .ref g_qgrips, .ref g_qwits, .ref g_qsays, .ref g_qgives0, .ref g_qgives1, .ref g_qfroms, .ref g_qtos])), (g_qgrips, .inl (cA 1, 8, .inl g_cgrips)), (g_qwits, .inl (cA 1, 8, .inl g_cwits))]) [0, 1, 5, 2, 3, 4] (by decide) rfl
    exact W.iret (v := L3_225) hx hb hr (fun t ht hW => ⟨⟨L3_225, ((fun _ => 0), (fun _ => 0), (selF [F2_225]), (fun _ _ => 0)), rfl, (show 0 ≤ L3_225.toInt from by omega), by rw [ht]; exact hP9, hD9⟩, hS.F ht⟩) hS.2.2 dX10_mostLeft_91
  · skip
    have k_228 := kk_nle zi_240 rfl c_226
    refine lv_aload_n hx hb dX10_mostLeft_21 rfl (lv_at hl 2 rfl) ?_
    refine va_get (D := D) (ci := 10) (v := .ref we_qfitted) (C := RX10) (T := TX10) (N := 5) hx hb hts inX10 hown hKN.1 hP 0 rfl rfl 1 (by decide) (hts _ tw_449) (fun _ h9 => h9) rfl dX10_mostLeft_22 ?_
    refine lv_iload hx hb dX10_mostLeft_25 (lv_at hl 0 rfl) ?_
    refine va_zald hx hb hKN.1 hP 1 3 rfl rfl (vp_in_iff.mpr ⟨by omega, by omega⟩) dX10_mostLeft_27 ?_
    refine lv_topi (fun x_229 ex_229 => ?_)
    refine lv_if_eq (tgt := 84) hx hb dX10_mostLeft_28 (by decide) (fun c_230 => ?_) (fun c_230 => ?_)
    · skip
      have b_232 := i32_bd x_229
      have k_231 := kk_eq rfl zi_0 c_230
      obtain ⟨x_233, ex_233⟩ : ∃ y : Int32, L4_225 + Int32.ofInt 1 = y := ⟨_, rfl⟩
      have k_234 := ar_add (b := 1) rfl zi_1 ex_233.symm (by omega) (by omega)
      refine lv_iinc (v := x_233) (lv' := [(4, .int x_233), (3, .int L3_225), (0, .ref h0), (1, .int p0), (2, .int p1)]) hx hb dX10_mostLeft_84 hl (k := 0) rfl ex_233 (by decide) rfl (fun ls hl => ?_)
      refine lv_goto (tgt := 13) hx hb dX10_mostLeft_87 (by decide) ?_
      exact ih_225 (x_233, L3_225, F2_225) _ _ _ ⟨(show 0 ≤ x_233.toInt ∧ x_233.toInt ≤ 240 from by omega), (show 0 ≤ L3_225.toInt from by omega), hP.sub [0, 1, 2, 3, 4, 5] rfl, hD.sub [0, 1, 2, 3, 4, 5] (by decide) rfl, hS, lv_sub hl [0, 1, 2, 3, 4] rfl⟩ (by show (2147483647 - x_233.toInt).toNat < (2147483647 - L4_225.toInt).toNat; omega)
    · skip
      have b_236 := i32_bd x_229
      have k_235 := kk_ne rfl zi_0 c_230
      refine lv_aload_n hx hb dX10_mostLeft_31 rfl (lv_at hl 2 rfl) ?_
      refine lv_iload_n hx hb dX10_mostLeft_32 rfl (lv_at hl 3 rfl) ?_
      refine lv_iload_n hx hb dX10_mostLeft_33 rfl (lv_at hl 4 rfl) ?_
      refine lv_iload hx hb dX10_mostLeft_34 (lv_at hl 0 rfl) ?_
      refine lv_bipush (v := 30) hx hb dX10_mostLeft_36 (by decide) ?_
      refine lv_idiv hx hb dX10_mostLeft_38 (by decide) ?_
      refine lv_topi (fun x_237 ex_237 => ?_)
      have k_238 := ar_div rfl zi_30 ex_237 (by omega) (by omega)
      refine lv_iload hx hb dX10_mostLeft_39 (lv_at hl 0 rfl) ?_
      refine lv_bipush (v := 30) hx hb dX10_mostLeft_41 (by decide) ?_
      refine lv_irem hx hb dX10_mostLeft_43 (by decide) ?_
      refine lv_topi (fun x_239 ex_239 => ?_)
      have k_240 := ar_rem rfl zi_30 ex_239 (by omega) (by omega)
      refine cpVi (rest := []) ⟨hx, hb, hml, hown, hts⟩ hKN (hP.sub (ws' := [(h0, .inr (10, [.int we_fitting, .ref we_qfitted, .ref we_qsharing, .ref g, .ref sl])), (g, .inr (3, [.int g_odds, .int g_pot, .int g_lines, .int g_men, .int g_clauses, .int g_winds, .int g_far0, .int g_far1, .ref g_qsides, .ref g_qgrips, .ref g_qwits, .ref g_qsays, .ref g_qgives0, .ref g_qgives1, .ref g_qfroms, .ref g_qtos])), (g_qgrips, .inl (cA 1, 8, .inl g_cgrips)), (g_qwits, .inl (cA 1, 8, .inl g_cwits))]) [0, 2, 3, 4] rfl) (g_X10_wearyHold l D cA h0 we_fitting we_qfitted we_qsharing g sl g_odds g_pot g_lines g_men g_clauses g_winds g_far0 g_far1 g_qsides g_qgrips g_qwits g_qsays g_qgives0 g_qgives1 g_qfroms g_qtos g_cgrips g_cwits p0 p1 x_237 x_239 (by omega) (by omega) (by omega) (by omega) (by omega) (by omega) (by omega)) (tb_V tw_1206 tw_1208 tw_29 tw_113 tw_1209) hdX10_wearyHold ⟨rfl, rfl, Nat.le_of_ble_eq_true rfl, Nat.le_of_ble_eq_true rfl⟩ ⟨Nat.le_of_ble_eq_true rfl, Nat.le_of_ble_eq_true rfl⟩ rfl rfl rfl hl.1 rfl (Nat.le_of_ble_eq_true rfl) dX10_mostLeft_44 (fun r_241 hr_241 => ?_)
      refine lv_istore (lv' := [(5, .int r_241), (4, .int L4_225), (3, .int L3_225), (0, .ref h0), (1, .int p0), (2, .int p1)]) hx hb dX10_mostLeft_47 hl (by decide) rfl (fun ls hl => ?_)
      refine lv_iload hx hb dX10_mostLeft_49 (lv_at hl 0 rfl) ?_
      refine lv_if_lt (tgt := 84) hx hb dX10_mostLeft_51 (by decide) (fun c_242 => ?_) (fun c_242 => ?_)
      · skip
        have b_244 := i32_bd r_241
        have k_243 := kk_lt rfl zi_0 c_242
        obtain ⟨x_245, ex_245⟩ : ∃ y : Int32, L4_225 + Int32.ofInt 1 = y := ⟨_, rfl⟩
        have k_246 := ar_add (b := 1) rfl zi_1 ex_245.symm (by omega) (by omega)
        refine lv_iinc (v := x_245) (lv' := [(4, .int x_245), (5, .int r_241), (3, .int L3_225), (0, .ref h0), (1, .int p0), (2, .int p1)]) hx hb dX10_mostLeft_84 hl (k := 1) rfl ex_245 (by decide) rfl (fun ls hl => ?_)
        refine lv_goto (tgt := 13) hx hb dX10_mostLeft_87 (by decide) ?_
        exact ih_225 (x_245, L3_225, F2_225) _ _ _ ⟨(show 0 ≤ x_245.toInt ∧ x_245.toInt ≤ 240 from by omega), (show 0 ≤ L3_225.toInt from by omega), hP.sub [0, 1, 2, 3, 4, 5] rfl, hD.sub [0, 1, 2, 3, 4, 5] (by decide) rfl, hS, lv_sub hl [0, 2, 3, 4, 5] rfl⟩ (by show (2147483647 - x_245.toInt).toNat < (2147483647 - L4_225.toInt).toNat; omega)
      · skip
        have b_248 := i32_bd r_241
        have k_247 := kk_nlt rfl zi_0 c_242
        refine lv_iload hx hb dX10_mostLeft_54 (lv_at hl 0 rfl) ?_
        refine lv_bipush (v := 40) hx hb dX10_mostLeft_56 (by decide) ?_
        refine lv_icmp_ge (tgt := 84) hx hb dX10_mostLeft_58 (by decide) (fun c_249 => ?_) (fun c_249 => ?_)
        · skip
          have k_250 := kk_le zi_40 rfl c_249
          obtain ⟨x_251, ex_251⟩ : ∃ y : Int32, L4_225 + Int32.ofInt 1 = y := ⟨_, rfl⟩
          have k_252 := ar_add (b := 1) rfl zi_1 ex_251.symm (by omega) (by omega)
          refine lv_iinc (v := x_251) (lv' := [(4, .int x_251), (5, .int r_241), (3, .int L3_225), (0, .ref h0), (1, .int p0), (2, .int p1)]) hx hb dX10_mostLeft_84 hl (k := 1) rfl ex_251 (by decide) rfl (fun ls hl => ?_)
          refine lv_goto (tgt := 13) hx hb dX10_mostLeft_87 (by decide) ?_
          exact ih_225 (x_251, L3_225, F2_225) _ _ _ ⟨(show 0 ≤ x_251.toInt ∧ x_251.toInt ≤ 240 from by omega), (show 0 ≤ L3_225.toInt from by omega), hP.sub [0, 1, 2, 3, 4, 5] rfl, hD.sub [0, 1, 2, 3, 4, 5] (by decide) rfl, hS, lv_sub hl [0, 2, 3, 4, 5] rfl⟩ (by show (2147483647 - x_251.toInt).toNat < (2147483647 - L4_225.toInt).toNat; omega)
        · skip
          have k_253 := kk_nle zi_40 rfl c_249
          refine lv_aload_n hx hb dX10_mostLeft_61 rfl (lv_at hl 3 rfl) ?_
          refine va_get (D := D) (ci := 10) (v := .ref we_qsharing) (C := RX10) (T := TX10) (N := 5) hx hb hts inX10 hown hKN.1 hP 0 rfl rfl 2 (by decide) (hts _ tw_450) (fun _ h9 => h9) rfl dX10_mostLeft_62 ?_
          refine lv_iload hx hb dX10_mostLeft_65 (lv_at hl 0 rfl) ?_
          refine lv_dup2_11 hx hb dX10_mostLeft_67 rfl rfl ?_
          refine va_iald hx hb hKN.1 hP 5 1 rfl rfl (vp_in_iff.mpr ⟨by omega, by omega⟩) dX10_mostLeft_68 ?_
          refine lv_topi (fun x_254 ex_254 => ?_)
          refine lv_iconst (v := 1) hx hb dX10_mostLeft_69 (by decide) ?_
          refine lv_iadd hx hb dX10_mostLeft_70 ?_
          refine lv_topi (fun x_255 ex_255 => ?_)
          refine va_iast hx hb hKN.1 hP hD hS 5 1 rfl rfl (vp_in_iff.mpr ⟨by omega, by omega⟩) dX10_mostLeft_71 (fun H locs hP hD hS => ?_)
          have hP : va_P D vwCl [(h0, .inr (10, [.int we_fitting, .ref we_qfitted, .ref we_qsharing, .ref g, .ref sl])), (we_qfitted, .inl (cA 3, 240, .inl we_cfitted)), (g, .inr (3, [.int g_odds, .int g_pot, .int g_lines, .int g_men, .int g_clauses, .int g_winds, .int g_far0, .int g_far1, .ref g_qsides, .ref g_qgrips, .ref g_qwits, .ref g_qsays, .ref g_qgives0, .ref g_qgives1, .ref g_qfroms, .ref g_qtos])), (g_qgrips, .inl (cA 1, 8, .inl g_cgrips)), (g_qwits, .inl (cA 1, 8, .inl g_cwits)), (we_qsharing, .inl (cA 1, 40, .inl (upd F2_225 r_241.toNatClampNeg x_255)))] H := hP
          have hD : va_D A [(h0, .inr (10, [.int we_fitting, .ref we_qfitted, .ref we_qsharing, .ref g, .ref sl])), (we_qfitted, .inl (cA 3, 240, .inl we_cfitted)), (g, .inr (3, [.int g_odds, .int g_pot, .int g_lines, .int g_men, .int g_clauses, .int g_winds, .int g_far0, .int g_far1, .ref g_qsides, .ref g_qgrips, .ref g_qwits, .ref g_qsays, .ref g_qgives0, .ref g_qgives1, .ref g_qfroms, .ref g_qtos])), (g_qgrips, .inl (cA 1, 8, .inl g_cgrips)), (g_qwits, .inl (cA 1, 8, .inl g_cwits)), (we_qsharing, .inl (cA 1, 40, .inl (upd F2_225 r_241.toNatClampNeg x_255)))] := hD
          generalize ef_257 : (upd F2_225 r_241.toNatClampNeg x_255) = f_257 at hP hD
          refine lv_iload_n hx hb dX10_mostLeft_72 rfl (lv_at hl 2 rfl) ?_
          refine lv_aload_n hx hb dX10_mostLeft_73 rfl (lv_at hl 3 rfl) ?_
          refine va_get (D := D) (ci := 10) (v := .ref we_qsharing) (C := RX10) (T := TX10) (N := 5) hx hb hts inX10 hown hKN.1 hP 0 rfl rfl 2 (by decide) (hts _ tw_450) (fun _ h9 => h9) rfl dX10_mostLeft_74 ?_
          refine lv_iload hx hb dX10_mostLeft_77 (lv_at hl 0 rfl) ?_
          refine va_iald hx hb hKN.1 hP 5 1 rfl rfl (vp_in_iff.mpr ⟨by omega, by omega⟩) dX10_mostLeft_79 ?_
          refine lv_topi (fun x_258 ex_258 => ?_)
          refine cpSi (rest := []) ⟨hx, hb, hml, hown, hts⟩ hKN (hP.sub (ws' := []) [] rfl) (g_J9_max_7cf53 l D cA L3_225 x_258) (tb_S tw_1237 tw_779 tw_115 tw_780) hdJ9_max_7cf53 ⟨rfl, rfl, Nat.le_of_ble_eq_true rfl, Nat.le_of_ble_eq_true rfl⟩ ⟨Nat.le_of_ble_eq_true rfl, Nat.le_of_ble_eq_true rfl⟩ rfl hl.1 rfl (Nat.le_of_ble_eq_true rfl) dX10_mostLeft_80 (fun r_259 hr_259 => ?_)
          obtain ⟨k_259_0_0, k_259_0_1, k_259_0_2⟩ := hr_259
          refine lv_istore_n (lv' := [(3, .int r_259), (5, .int r_241), (4, .int L4_225), (0, .ref h0), (1, .int p0), (2, .int p1)]) hx hb dX10_mostLeft_83 rfl hl (by decide) rfl (fun ls hl => ?_)
          obtain ⟨x_260, ex_260⟩ : ∃ y : Int32, L4_225 + Int32.ofInt 1 = y := ⟨_, rfl⟩
          have k_261 := ar_add (b := 1) rfl zi_1 ex_260.symm (by omega) (by omega)
          refine lv_iinc (v := x_260) (lv' := [(4, .int x_260), (3, .int r_259), (5, .int r_241), (0, .ref h0), (1, .int p0), (2, .int p1)]) hx hb dX10_mostLeft_84 hl (k := 2) rfl ex_260 (by decide) rfl (fun ls hl => ?_)
          refine lv_goto (tgt := 13) hx hb dX10_mostLeft_87 (by decide) ?_
          exact ih_225 (x_260, r_259, f_257) _ _ _ ⟨(show 0 ≤ x_260.toInt ∧ x_260.toInt ≤ 240 from by omega), (show 0 ≤ r_259.toInt from by omega), hP.sub [0, 1, 2, 3, 4, 5] rfl, hD.sub [0, 1, 2, 3, 4, 5] (by decide) rfl, hS, lv_sub hl [0, 1, 3, 4, 5] rfl⟩ (by show (2147483647 - x_260.toInt).toNat < (2147483647 - L4_225.toInt).toNat; omega)
set_option maxHeartbeats 8000000 in
set_option maxRecDepth 100000 in
theorem g_X10_bestQuestion (l : Launch) (D : va_G) (cA : Nat → ClassId) (sz : Nat) (h0 : Nat) (we_fitting : Int32) (we_qfitted : Nat) (we_qsharing : Nat) (g : Nat) (sl : Nat) (we_cfitted : Nat → Int32) (we_csharing : Nat → Int32) (g_odds : Int32) (g_pot : Int32) (g_lines : Int32) (g_men : Int32) (g_clauses : Int32) (g_winds : Int32) (g_far0 : Int32) (g_far1 : Int32) (g_qsides : Nat) (g_qgrips : Nat) (g_qwits : Nat) (g_qsays : Nat) (g_qgives0 : Nat) (g_qgives1 : Nat) (g_qfroms : Nat) (g_qtos : Nat) (g_csides : Nat → Int32) (g_cgrips : Nat → Int32) (g_cwits : Nat → Int32) (h_g_odds : -999 ≤ (g_odds : Int32).toInt ∧ (g_odds : Int32).toInt ≤ 999) (h_g_pot : -999 ≤ (g_pot : Int32).toInt ∧ (g_pot : Int32).toInt ≤ 999) (h_g_men : 0 ≤ (g_men : Int32).toInt ∧ (g_men : Int32).toInt ≤ 8) (h_g_clauses : 0 ≤ (g_clauses : Int32).toInt ∧ (g_clauses : Int32).toInt ≤ 7) (h_g_winds : 0 ≤ (g_winds : Int32).toInt ∧ (g_winds : Int32).toInt ≤ 4) (h_g_far0 : -999 ≤ (g_far0 : Int32).toInt ∧ (g_far0 : Int32).toInt ≤ 999) (h_g_far1 : -999 ≤ (g_far1 : Int32).toInt ∧ (g_far1 : Int32).toInt ≤ 999) : Met l yX10_bestQuestion (Cond.code yX10_bestQuestion cX10_bestQuestion 6 (some .int) :: TB) (rmd 4 0 0) (PM D cA sz [(h0, .inr (10, [.int we_fitting, .ref we_qfitted, .ref we_qsharing, .ref g, .ref sl])), (we_qfitted, .inl (cA 3, 240, .inl we_cfitted)), (we_qsharing, .inl (cA 1, 40, .inl we_csharing)), (g, .inr (3, [.int g_odds, .int g_pot, .int g_lines, .int g_men, .int g_clauses, .int g_winds, .int g_far0, .int g_far1, .ref g_qsides, .ref g_qgrips, .ref g_qwits, .ref g_qsays, .ref g_qgives0, .ref g_qgives1, .ref g_qfroms, .ref g_qtos])), (g_qsides, .inl (cA 1, 8, .inl g_csides)), (g_qgrips, .inl (cA 1, 8, .inl g_cgrips)), (g_qwits, .inl (cA 1, 8, .inl g_cwits))] [.ref h0]) (va_Qi (fun r (u : SU) => (-1 ≤ r.toInt ∧ r.toInt ≤ 77)) (fun u t => va_P D vwCl [(h0, .inr (10, [.int we_fitting, .ref we_qfitted, .ref we_qsharing, .ref g, .ref sl])), (we_qfitted, .inl (cA 3, 240, .inl we_cfitted)), (we_qsharing, .inl (cA 1, 40, .inl (u.2.2.1 0))), (g, .inr (3, [.int g_odds, .int g_pot, .int g_lines, .int g_men, .int g_clauses, .int g_winds, .int g_far0, .int g_far1, .ref g_qsides, .ref g_qgrips, .ref g_qwits, .ref g_qsays, .ref g_qgives0, .ref g_qgives1, .ref g_qfroms, .ref g_qtos])), (g_qsides, .inl (cA 1, 8, .inl g_csides)), (g_qgrips, .inl (cA 1, 8, .inl g_cgrips)), (g_qwits, .inl (cA 1, 8, .inl g_cwits))] t.heap ∧ va_D (va_A [(h0, .inr (10, [.int we_fitting, .ref we_qfitted, .ref we_qsharing, .ref g, .ref sl])), (we_qfitted, .inl (cA 3, 240, .inl we_cfitted)), (we_qsharing, .inl (cA 1, 40, .inl we_csharing)), (g, .inr (3, [.int g_odds, .int g_pot, .int g_lines, .int g_men, .int g_clauses, .int g_winds, .int g_far0, .int g_far1, .ref g_qsides, .ref g_qgrips, .ref g_qwits, .ref g_qsays, .ref g_qgives0, .ref g_qgives1, .ref g_qfroms, .ref g_qtos])), (g_qsides, .inl (cA 1, 8, .inl g_csides)), (g_qgrips, .inl (cA 1, 8, .inl g_cgrips)), (g_qwits, .inl (cA 1, 8, .inl g_cwits))] sz) [(h0, .inr (10, [.int we_fitting, .ref we_qfitted, .ref we_qsharing, .ref g, .ref sl])), (we_qfitted, .inl (cA 3, 240, .inl we_cfitted)), (we_qsharing, .inl (cA 1, 40, .inl (u.2.2.1 0))), (g, .inr (3, [.int g_odds, .int g_pot, .int g_lines, .int g_men, .int g_clauses, .int g_winds, .int g_far0, .int g_far1, .ref g_qsides, .ref g_qgrips, .ref g_qwits, .ref g_qsays, .ref g_qgives0, .ref g_qgives1, .ref g_qfroms, .ref g_qtos])), (g_qsides, .inl (cA 1, 8, .inl g_csides)), (g_qgrips, .inl (cA 1, 8, .inl g_cgrips)), (g_qwits, .inl (cA 1, 8, .inl g_cwits))]) (va_A [(h0, .inr (10, [.int we_fitting, .ref we_qfitted, .ref we_qsharing, .ref g, .ref sl])), (we_qfitted, .inl (cA 3, 240, .inl we_cfitted)), (we_qsharing, .inl (cA 1, 40, .inl we_csharing)), (g, .inr (3, [.int g_odds, .int g_pot, .int g_lines, .int g_men, .int g_clauses, .int g_winds, .int g_far0, .int g_far1, .ref g_qsides, .ref g_qgrips, .ref g_qwits, .ref g_qsays, .ref g_qgives0, .ref g_qgives1, .ref g_qfroms, .ref g_qtos])), (g_qsides, .inl (cA 1, 8, .inl g_csides)), (g_qgrips, .inl (cA 1, 8, .inl g_cgrips)), (g_qwits, .inl (cA 1, 8, .inl g_cwits))] sz)) 0 0 (va_A [(h0, .inr (10, [.int we_fitting, .ref we_qfitted, .ref we_qsharing, .ref g, .ref sl])), (we_qfitted, .inl (cA 3, 240, .inl we_cfitted)), (we_qsharing, .inl (cA 1, 40, .inl we_csharing)), (g, .inr (3, [.int g_odds, .int g_pot, .int g_lines, .int g_men, .int g_clauses, .int g_winds, .int g_far0, .int g_far1, .ref g_qsides, .ref g_qgrips, .ref g_qwits, .ref g_qsays, .ref g_qgives0, .ref g_qgives1, .ref g_qfroms, .ref g_qtos])), (g_qsides, .inl (cA 1, 8, .inl g_csides)), (g_qgrips, .inl (cA 1, 8, .inl g_cgrips)), (g_qwits, .inl (cA 1, 8, .inl g_cwits))] sz) := by
  refine Met.ofW (cc := cX10_bestQuestion) (maxL := 6) (ret := (some .int)) (by decide) rfl ?_
  intro p e s m args below meth c s₁ B hml hv
  obtain ⟨rfl, hsz, hP, hKN, hD0⟩ := hv
  have hx := B.exec
  have hb := B.bytes
  have hr := B.returns
  have hts : ∀ w ∈ TB, w.before _ s = true := fun w h => atoms_spec B.pre w (List.mem_cons_of_mem _ h)
  have hown : s.vm.findClass RX10 = some m.cls := findClass_of_methodNamed B.named
  have hlocks := B.notSynchronized
  subst hsz
  have hD := hD0.self (sz := s.heap.size)
  generalize hAe : va_A [(h0, .inr (10, [.int we_fitting, .ref we_qfitted, .ref we_qsharing, .ref g, .ref sl])), (we_qfitted, .inl (cA 3, 240, .inl we_cfitted)), (we_qsharing, .inl (cA 1, 40, .inl we_csharing)), (g, .inr (3, [.int g_odds, .int g_pot, .int g_lines, .int g_men, .int g_clauses, .int g_winds, .int g_far0, .int g_far1, .ref g_qsides, .ref g_qgrips, .ref g_qwits, .ref g_qsays, .ref g_qgives0, .ref g_qgives1, .ref g_qfroms, .ref g_qtos])), (g_qsides, .inl (cA 1, 8, .inl g_csides)), (g_qgrips, .inl (cA 1, 8, .inl g_cgrips)), (g_qwits, .inl (cA 1, 8, .inl g_cwits))] s.heap.size = A at hD ⊢
  have hA : ∀ q : Nat, s.heap.size ≤ q → A q := fun q h => by rw [← hAe]; exact Or.inr h
  have hS : va_S A s.heap s.heap [] := va_S.rf
  have hl := lv_entry ([.ref h0]) (n := 6) (Nat.le_of_ble_eq_true rfl)
  rw [lg_entry_eq]
  generalize (lg_sl ([.ref h0]) ++ List.replicate (6 - (lg_sl ([.ref h0])).length) Slot.unset).toArray = ls at hl ⊢
  have hl : lv_has ls 6 [(0, .ref h0)] := hl
  refine lv_iconst (v := (-1)) hx hb dX10_bestQuestion_0 (by decide) ?_
  refine lv_istore_n (lv' := [(1, .int (-1)), (0, .ref h0)]) hx hb dX10_bestQuestion_1 rfl hl (by decide) rfl (fun ls hl => ?_)
  refine lv_aload_n hx hb dX10_bestQuestion_2 rfl (lv_at hl 1 rfl) ?_
  refine va_get (D := D) (ci := 10) (v := .int we_fitting) (C := RX10) (T := TX10) (N := 5) hx hb hts inX10 hown hKN.1 hP 0 rfl rfl 0 (by decide) (hts _ tw_447) (fun _ h9 => h9) rfl dX10_bestQuestion_3 ?_
  refine lv_istore_n (lv' := [(2, .int we_fitting), (1, .int (-1)), (0, .ref h0)]) hx hb dX10_bestQuestion_6 rfl hl (by decide) rfl (fun ls hl => ?_)
  refine lv_iconst (v := 0) hx hb dX10_bestQuestion_7 (by decide) ?_
  refine lv_istore_n (lv' := [(3, .int 0), (2, .int we_fitting), (1, .int (-1)), (0, .ref h0)]) hx hb dX10_bestQuestion_8 rfl hl (by decide) rfl (fun ls hl => ?_)
  have b_2211 := i32_bd we_fitting
  refine loopW (σ := Int32 × Int32 × Int32 × (Nat → Int32)) (fun _ => []) (fun ⟨L3_2210, L2_2210, L1_2210, F3_2210⟩ H locs ls => (0 ≤ L3_2210.toInt ∧ L3_2210.toInt ≤ 8) ∧ (-1 ≤ L1_2210.toInt ∧ L1_2210.toInt ≤ 77) ∧ va_P D vwCl [(h0, .inr (10, [.int we_fitting, .ref we_qfitted, .ref we_qsharing, .ref g, .ref sl])), (we_qfitted, .inl (cA 3, 240, .inl we_cfitted)), (we_qsharing, .inl (cA 1, 40, .inl F3_2210)), (g, .inr (3, [.int g_odds, .int g_pot, .int g_lines, .int g_men, .int g_clauses, .int g_winds, .int g_far0, .int g_far1, .ref g_qsides, .ref g_qgrips, .ref g_qwits, .ref g_qsays, .ref g_qgives0, .ref g_qgives1, .ref g_qfroms, .ref g_qtos])), (g_qsides, .inl (cA 1, 8, .inl g_csides)), (g_qgrips, .inl (cA 1, 8, .inl g_cgrips)), (g_qwits, .inl (cA 1, 8, .inl g_cwits))] H ∧ va_D A [(h0, .inr (10, [.int we_fitting, .ref we_qfitted, .ref we_qsharing, .ref g, .ref sl])), (we_qfitted, .inl (cA 3, 240, .inl we_cfitted)), (we_qsharing, .inl (cA 1, 40, .inl F3_2210)), (g, .inr (3, [.int g_odds, .int g_pot, .int g_lines, .int g_men, .int g_clauses, .int g_winds, .int g_far0, .int g_far1, .ref g_qsides, .ref g_qgrips, .ref g_qwits, .ref g_qsays, .ref g_qgives0, .ref g_qgives1, .ref g_qfroms, .ref g_qtos])), (g_qsides, .inl (cA 1, 8, .inl g_csides)), (g_qgrips, .inl (cA 1, 8, .inl g_cgrips)), (g_qwits, .inl (cA 1, 8, .inl g_cwits))] ∧ va_S A s.heap H locs ∧ lv_has ls 6 [(3, .int L3_2210), (2, .int L2_2210), (1, .int L1_2210), (0, .ref h0)]) (fun ⟨L3_2210, L2_2210, L1_2210, F3_2210⟩ => (2147483647 - L3_2210.toInt).toNat) ?_ ((0, we_fitting, (-1), we_csharing) : Int32 × Int32 × Int32 × (Nat → Int32)) ⟨(by decide), (by decide), hP, hD, hS, hl⟩
  intro x_2210 H locs ls hI_2210 ih_2210
  obtain ⟨L3_2210, L2_2210, L1_2210, F3_2210⟩ := x_2210
  obtain ⟨k0_2210, k1_2210, hP, hD, hS, hl⟩ := hI_2210
  have hP : va_P D vwCl [(h0, .inr (10, [.int we_fitting, .ref we_qfitted, .ref we_qsharing, .ref g, .ref sl])), (we_qfitted, .inl (cA 3, 240, .inl we_cfitted)), (we_qsharing, .inl (cA 1, 40, .inl F3_2210)), (g, .inr (3, [.int g_odds, .int g_pot, .int g_lines, .int g_men, .int g_clauses, .int g_winds, .int g_far0, .int g_far1, .ref g_qsides, .ref g_qgrips, .ref g_qwits, .ref g_qsays, .ref g_qgives0, .ref g_qgives1, .ref g_qfroms, .ref g_qtos])), (g_qsides, .inl (cA 1, 8, .inl g_csides)), (g_qgrips, .inl (cA 1, 8, .inl g_cgrips)), (g_qwits, .inl (cA 1, 8, .inl g_cwits))] H := hP
  have hD : va_D A [(h0, .inr (10, [.int we_fitting, .ref we_qfitted, .ref we_qsharing, .ref g, .ref sl])), (we_qfitted, .inl (cA 3, 240, .inl we_cfitted)), (we_qsharing, .inl (cA 1, 40, .inl F3_2210)), (g, .inr (3, [.int g_odds, .int g_pot, .int g_lines, .int g_men, .int g_clauses, .int g_winds, .int g_far0, .int g_far1, .ref g_qsides, .ref g_qgrips, .ref g_qwits, .ref g_qsays, .ref g_qgives0, .ref g_qgives1, .ref g_qfroms, .ref g_qtos])), (g_qsides, .inl (cA 1, 8, .inl g_csides)), (g_qgrips, .inl (cA 1, 8, .inl g_cgrips)), (g_qwits, .inl (cA 1, 8, .inl g_cwits))] := hD
  have hl : lv_has ls 6 [(3, .int L3_2210), (2, .int L2_2210), (1, .int L1_2210), (0, .ref h0)] := hl
  refine lv_iload_n hx hb dX10_bestQuestion_9 rfl (lv_at hl 0 rfl) ?_
  refine lv_aload_n hx hb dX10_bestQuestion_10 rfl (lv_at hl 3 rfl) ?_
  refine va_get (D := D) (ci := 10) (v := .ref g) (C := RX10) (T := TX10) (N := 5) hx hb hts inX10 hown hKN.1 hP 0 rfl rfl 3 (by decide) (hts _ tw_451) (fun _ h9 => h9) rfl dX10_bestQuestion_11 ?_
  refine va_get (D := D) (ci := 3) (v := .int g_men) (C := RX3) (T := TX3) (N := 16) hx hb hts inX3 hown hKN.1 hP 3 rfl rfl 3 (by decide) (hts _ tw_169) (fun _ h9 => h9) rfl dX10_bestQuestion_14 ?_
  refine lv_icmp_ge (tgt := 97) hx hb dX10_bestQuestion_17 (by decide) (fun c_2212 => ?_) (fun c_2212 => ?_)
  · skip
    have k_2213 := kk_le rfl rfl c_2212
    refine lv_iload_n hx hb dX10_bestQuestion_97 rfl (lv_at hl 2 rfl) ?_
    have hP9 := hP.sub (ws' := [(h0, .inr (10, [.int we_fitting, .ref we_qfitted, .ref we_qsharing, .ref g, .ref sl])), (we_qfitted, .inl (cA 3, 240, .inl we_cfitted)), (we_qsharing, .inl (cA 1, 40, .inl F3_2210)), (g, .inr (3, [.int g_odds, .int g_pot, .int g_lines, .int g_men, .int g_clauses, .int g_winds, .int g_far0, .int g_far1, .ref g_qsides, .ref g_qgrips, .ref g_qwits, .ref g_qsays, .ref g_qgives0, .ref g_qgives1, .ref g_qfroms, .ref g_qtos])), (g_qsides, .inl (cA 1, 8, .inl g_csides)), (g_qgrips, .inl (cA 1, 8, .inl g_cgrips)), (g_qwits, .inl (cA 1, 8, .inl g_cwits))]) [0, 1, 2, 3, 4, 5, 6] rfl
    have hD9 := hD.sub (ws' := [(h0, .inr (10, [.int we_fitting, .ref we_qfitted, .ref we_qsharing, .ref g, .ref sl])), (we_qfitted, .inl (cA 3, 240, .inl we_cfitted)), (we_qsharing, .inl (cA 1, 40, .inl F3_2210)), (g, .inr (3, [.int g_odds, .int g_pot, .int g_lines, .int g_men, .int g_clauses, .int g_winds, .int g_far0, .int g_far1, .ref g_qsides, .ref g_qgrips, .ref g_qwits, .ref g_qsays, .ref g_qgives0, .ref g_qgives1, .ref g_qfroms, .ref g_qtos])), (g_qsides, .inl (cA 1, 8, .inl g_csides)), (g_qgrips, .inl (cA 1, 8, .inl g_cgrips)), (g_qwits, .inl (cA 1, 8, .inl g_cwits))]) [0, 1, 2, 3, 4, 5, 6] (by decide) rfl
    exact W.iret (v := L1_2210) hx hb hr (fun t ht hW => ⟨⟨L1_2210, ((fun _ => 0), (fun _ => 0), (selF [F3_2210]), (fun _ _ => 0)), rfl, (show -1 ≤ L1_2210.toInt ∧ L1_2210.toInt ≤ 77 from by omega), by rw [ht]; exact hP9, hD9⟩, hS.F ht⟩) hS.2.2 dX10_bestQuestion_98
  · skip
    have k_2214 := kk_nle rfl rfl c_2212
    refine lv_iconst (v := 0) hx hb dX10_bestQuestion_20 (by decide) ?_
    refine lv_istore (lv' := [(4, .int 0), (3, .int L3_2210), (2, .int L2_2210), (1, .int L1_2210), (0, .ref h0)]) hx hb dX10_bestQuestion_21 hl (by decide) rfl (fun ls hl => ?_)
    have b_2456 := i32_bd L2_2210
    refine loopW (σ := Int32 × Int32 × Int32 × (Nat → Int32)) (fun _ => []) (fun ⟨L4_2455, L2_2455, L1_2455, F3_2455⟩ H locs ls => (0 ≤ L4_2455.toInt ∧ L4_2455.toInt ≤ 8) ∧ (-1 ≤ L1_2455.toInt ∧ L1_2455.toInt ≤ 77) ∧ va_P D vwCl [(h0, .inr (10, [.int we_fitting, .ref we_qfitted, .ref we_qsharing, .ref g, .ref sl])), (we_qfitted, .inl (cA 3, 240, .inl we_cfitted)), (we_qsharing, .inl (cA 1, 40, .inl F3_2455)), (g, .inr (3, [.int g_odds, .int g_pot, .int g_lines, .int g_men, .int g_clauses, .int g_winds, .int g_far0, .int g_far1, .ref g_qsides, .ref g_qgrips, .ref g_qwits, .ref g_qsays, .ref g_qgives0, .ref g_qgives1, .ref g_qfroms, .ref g_qtos])), (g_qsides, .inl (cA 1, 8, .inl g_csides)), (g_qgrips, .inl (cA 1, 8, .inl g_cgrips)), (g_qwits, .inl (cA 1, 8, .inl g_cwits))] H ∧ va_D A [(h0, .inr (10, [.int we_fitting, .ref we_qfitted, .ref we_qsharing, .ref g, .ref sl])), (we_qfitted, .inl (cA 3, 240, .inl we_cfitted)), (we_qsharing, .inl (cA 1, 40, .inl F3_2455)), (g, .inr (3, [.int g_odds, .int g_pot, .int g_lines, .int g_men, .int g_clauses, .int g_winds, .int g_far0, .int g_far1, .ref g_qsides, .ref g_qgrips, .ref g_qwits, .ref g_qsays, .ref g_qgives0, .ref g_qgives1, .ref g_qfroms, .ref g_qtos])), (g_qsides, .inl (cA 1, 8, .inl g_csides)), (g_qgrips, .inl (cA 1, 8, .inl g_cgrips)), (g_qwits, .inl (cA 1, 8, .inl g_cwits))] ∧ va_S A s.heap H locs ∧ lv_has ls 6 [(4, .int L4_2455), (3, .int L3_2210), (2, .int L2_2455), (1, .int L1_2455), (0, .ref h0)]) (fun ⟨L4_2455, L2_2455, L1_2455, F3_2455⟩ => (2147483647 - L4_2455.toInt).toNat) ?_ ((0, L2_2210, L1_2210, F3_2210) : Int32 × Int32 × Int32 × (Nat → Int32)) ⟨(by decide), (show -1 ≤ L1_2210.toInt ∧ L1_2210.toInt ≤ 77 from by omega), hP, hD, hS, hl⟩
    intro x_2455 H locs ls hI_2455 ih_2455
    obtain ⟨L4_2455, L2_2455, L1_2455, F3_2455⟩ := x_2455
    obtain ⟨k0_2455, k1_2455, hP, hD, hS, hl⟩ := hI_2455
    have hP : va_P D vwCl [(h0, .inr (10, [.int we_fitting, .ref we_qfitted, .ref we_qsharing, .ref g, .ref sl])), (we_qfitted, .inl (cA 3, 240, .inl we_cfitted)), (we_qsharing, .inl (cA 1, 40, .inl F3_2455)), (g, .inr (3, [.int g_odds, .int g_pot, .int g_lines, .int g_men, .int g_clauses, .int g_winds, .int g_far0, .int g_far1, .ref g_qsides, .ref g_qgrips, .ref g_qwits, .ref g_qsays, .ref g_qgives0, .ref g_qgives1, .ref g_qfroms, .ref g_qtos])), (g_qsides, .inl (cA 1, 8, .inl g_csides)), (g_qgrips, .inl (cA 1, 8, .inl g_cgrips)), (g_qwits, .inl (cA 1, 8, .inl g_cwits))] H := hP
    have hD : va_D A [(h0, .inr (10, [.int we_fitting, .ref we_qfitted, .ref we_qsharing, .ref g, .ref sl])), (we_qfitted, .inl (cA 3, 240, .inl we_cfitted)), (we_qsharing, .inl (cA 1, 40, .inl F3_2455)), (g, .inr (3, [.int g_odds, .int g_pot, .int g_lines, .int g_men, .int g_clauses, .int g_winds, .int g_far0, .int g_far1, .ref g_qsides, .ref g_qgrips, .ref g_qwits, .ref g_qsays, .ref g_qgives0, .ref g_qgives1, .ref g_qfroms, .ref g_qtos])), (g_qsides, .inl (cA 1, 8, .inl g_csides)), (g_qgrips, .inl (cA 1, 8, .inl g_cgrips)), (g_qwits, .inl (cA 1, 8, .inl g_cwits))] := hD
    have hl : lv_has ls 6 [(4, .int L4_2455), (3, .int L3_2210), (2, .int L2_2455), (1, .int L1_2455), (0, .ref h0)] := hl
    refine lv_iload hx hb dX10_bestQuestion_23 (lv_at hl 0 rfl) ?_
    refine lv_aload_n hx hb dX10_bestQuestion_25 rfl (lv_at hl 4 rfl) ?_
    refine va_get (D := D) (ci := 10) (v := .ref g) (C := RX10) (T := TX10) (N := 5) hx hb hts inX10 hown hKN.1 hP 0 rfl rfl 3 (by decide) (hts _ tw_451) (fun _ h9 => h9) rfl dX10_bestQuestion_26 ?_
    refine va_get (D := D) (ci := 3) (v := .int g_men) (C := RX3) (T := TX3) (N := 16) hx hb hts inX3 hown hKN.1 hP 3 rfl rfl 3 (by decide) (hts _ tw_169) (fun _ h9 => h9) rfl dX10_bestQuestion_29 ?_
    refine lv_icmp_ge (tgt := 91) hx hb dX10_bestQuestion_32 (by decide) (fun c_2457 => ?_) (fun c_2457 => ?_)
    · skip
      have k_2458 := kk_le rfl rfl c_2457
      obtain ⟨x_2459, ex_2459⟩ : ∃ y : Int32, L3_2210 + Int32.ofInt 1 = y := ⟨_, rfl⟩
      have k_2460 := ar_add (b := 1) rfl zi_1 ex_2459.symm (by omega) (by omega)
      refine lv_iinc (v := x_2459) (lv' := [(3, .int x_2459), (4, .int L4_2455), (2, .int L2_2455), (1, .int L1_2455), (0, .ref h0)]) hx hb dX10_bestQuestion_91 hl (k := 1) rfl ex_2459 (by decide) rfl (fun ls hl => ?_)
      refine lv_goto (tgt := 9) hx hb dX10_bestQuestion_94 (by decide) ?_
      exact ih_2210 (x_2459, L2_2455, L1_2455, F3_2455) _ _ _ ⟨(show 0 ≤ x_2459.toInt ∧ x_2459.toInt ≤ 8 from by omega), (show -1 ≤ L1_2455.toInt ∧ L1_2455.toInt ≤ 77 from by omega), hP.sub [0, 1, 2, 3, 4, 5, 6] rfl, hD.sub [0, 1, 2, 3, 4, 5, 6] (by decide) rfl, hS, lv_sub hl [0, 2, 3, 4] rfl⟩ (by show (2147483647 - x_2459.toInt).toNat < (2147483647 - L3_2210.toInt).toNat; omega)
    · skip
      have k_2461 := kk_nle rfl rfl c_2457
      refine lv_aload_n hx hb dX10_bestQuestion_35 rfl (lv_at hl 4 rfl) ?_
      refine va_get (D := D) (ci := 10) (v := .ref g) (C := RX10) (T := TX10) (N := 5) hx hb hts inX10 hown hKN.1 hP 0 rfl rfl 3 (by decide) (hts _ tw_451) (fun _ h9 => h9) rfl dX10_bestQuestion_36 ?_
      refine lv_iload_n hx hb dX10_bestQuestion_39 rfl (lv_at hl 1 rfl) ?_
      refine cpVi (rest := []) ⟨hx, hb, hml, hown, hts⟩ hKN (hP.sub (ws' := [(g, .inr (3, [.int g_odds, .int g_pot, .int g_lines, .int g_men, .int g_clauses, .int g_winds, .int g_far0, .int g_far1, .ref g_qsides, .ref g_qgrips, .ref g_qwits, .ref g_qsays, .ref g_qgives0, .ref g_qgives1, .ref g_qfroms, .ref g_qtos])), (g_qsides, .inl (cA 1, 8, .inl g_csides))]) [3, 4] rfl) (g_X3_sideOf l D cA g g_odds g_pot g_lines g_men g_clauses g_winds g_far0 g_far1 g_qsides g_qgrips g_qwits g_qsays g_qgives0 g_qgives1 g_qfroms g_qtos g_csides L3_2210 (by omega) (by omega) (by omega) (by omega) (by omega) (by omega) (by omega)) (tb_V tw_1194 tw_703 tw_704 tw_104 tw_705) hdX3_sideOf ⟨rfl, rfl, Nat.le_of_ble_eq_true rfl, Nat.le_of_ble_eq_true rfl⟩ ⟨Nat.le_of_ble_eq_true rfl, Nat.le_of_ble_eq_true rfl⟩ rfl rfl rfl hl.1 rfl (Nat.le_of_ble_eq_true rfl) dX10_bestQuestion_40 (fun r_2462 hr_2462 => ?_)
      rcases hr_2462 with ⟨k_2462_0_0, k_2462_0_1⟩ | rfl
      · skip
        refine lv_if_ne (tgt := 85) hx hb dX10_bestQuestion_43 (by decide) (fun c_2463 => ?_) (fun c_2463 => ?_)
        · skip
          have b_2465 := i32_bd r_2462
          have k_2464 := kk_ne rfl zi_0 c_2463
          obtain ⟨x_2466, ex_2466⟩ : ∃ y : Int32, L4_2455 + Int32.ofInt 1 = y := ⟨_, rfl⟩
          have k_2467 := ar_add (b := 1) rfl zi_1 ex_2466.symm (by omega) (by omega)
          refine lv_iinc (v := x_2466) (lv' := [(4, .int x_2466), (3, .int L3_2210), (2, .int L2_2455), (1, .int L1_2455), (0, .ref h0)]) hx hb dX10_bestQuestion_85 hl (k := 0) rfl ex_2466 (by decide) rfl (fun ls hl => ?_)
          refine lv_goto (tgt := 23) hx hb dX10_bestQuestion_88 (by decide) ?_
          exact ih_2455 (x_2466, L2_2455, L1_2455, F3_2455) _ _ _ ⟨(show 0 ≤ x_2466.toInt ∧ x_2466.toInt ≤ 8 from by omega), (show -1 ≤ L1_2455.toInt ∧ L1_2455.toInt ≤ 77 from by omega), hP.sub [0, 1, 2, 3, 4, 5, 6] rfl, hD.sub [0, 1, 2, 3, 4, 5, 6] (by decide) rfl, hS, lv_sub hl [0, 1, 2, 3, 4] rfl⟩ (by show (2147483647 - x_2466.toInt).toNat < (2147483647 - L4_2455.toInt).toNat; omega)
        · skip
          have b_2469 := i32_bd r_2462
          have k_2468 := kk_eq rfl zi_0 c_2463
          refine lv_aload_n hx hb dX10_bestQuestion_46 rfl (lv_at hl 4 rfl) ?_
          refine va_get (D := D) (ci := 10) (v := .ref g) (C := RX10) (T := TX10) (N := 5) hx hb hts inX10 hown hKN.1 hP 0 rfl rfl 3 (by decide) (hts _ tw_451) (fun _ h9 => h9) rfl dX10_bestQuestion_47 ?_
          refine lv_iload hx hb dX10_bestQuestion_50 (lv_at hl 0 rfl) ?_
          refine cpVi (rest := []) ⟨hx, hb, hml, hown, hts⟩ hKN (hP.sub (ws' := [(g, .inr (3, [.int g_odds, .int g_pot, .int g_lines, .int g_men, .int g_clauses, .int g_winds, .int g_far0, .int g_far1, .ref g_qsides, .ref g_qgrips, .ref g_qwits, .ref g_qsays, .ref g_qgives0, .ref g_qgives1, .ref g_qfroms, .ref g_qtos])), (g_qsides, .inl (cA 1, 8, .inl g_csides))]) [3, 4] rfl) (g_X3_sideOf l D cA g g_odds g_pot g_lines g_men g_clauses g_winds g_far0 g_far1 g_qsides g_qgrips g_qwits g_qsays g_qgives0 g_qgives1 g_qfroms g_qtos g_csides L4_2455 (by omega) (by omega) (by omega) (by omega) (by omega) (by omega) (by omega)) (tb_V tw_1194 tw_703 tw_704 tw_104 tw_705) hdX3_sideOf ⟨rfl, rfl, Nat.le_of_ble_eq_true rfl, Nat.le_of_ble_eq_true rfl⟩ ⟨Nat.le_of_ble_eq_true rfl, Nat.le_of_ble_eq_true rfl⟩ rfl rfl rfl hl.1 rfl (Nat.le_of_ble_eq_true rfl) dX10_bestQuestion_52 (fun r_2470 hr_2470 => ?_)
          rcases hr_2470 with ⟨k_2470_0_0, k_2470_0_1⟩ | rfl
          · skip
            refine lv_iconst (v := 1) hx hb dX10_bestQuestion_55 (by decide) ?_
            refine lv_icmp_ne (tgt := 85) hx hb dX10_bestQuestion_56 (by decide) (fun c_2471 => ?_) (fun c_2471 => ?_)
            · skip
              have b_2473 := i32_bd r_2470
              have k_2472 := kk_ne rfl zi_1 c_2471
              obtain ⟨x_2474, ex_2474⟩ : ∃ y : Int32, L4_2455 + Int32.ofInt 1 = y := ⟨_, rfl⟩
              have k_2475 := ar_add (b := 1) rfl zi_1 ex_2474.symm (by omega) (by omega)
              refine lv_iinc (v := x_2474) (lv' := [(4, .int x_2474), (3, .int L3_2210), (2, .int L2_2455), (1, .int L1_2455), (0, .ref h0)]) hx hb dX10_bestQuestion_85 hl (k := 0) rfl ex_2474 (by decide) rfl (fun ls hl => ?_)
              refine lv_goto (tgt := 23) hx hb dX10_bestQuestion_88 (by decide) ?_
              exact ih_2455 (x_2474, L2_2455, L1_2455, F3_2455) _ _ _ ⟨(show 0 ≤ x_2474.toInt ∧ x_2474.toInt ≤ 8 from by omega), (show -1 ≤ L1_2455.toInt ∧ L1_2455.toInt ≤ 77 from by omega), hP.sub [0, 1, 2, 3, 4, 5, 6] rfl, hD.sub [0, 1, 2, 3, 4, 5, 6] (by decide) rfl, hS, lv_sub hl [0, 1, 2, 3, 4] rfl⟩ (by show (2147483647 - x_2474.toInt).toNat < (2147483647 - L4_2455.toInt).toNat; omega)
            · skip
              have b_2477 := i32_bd r_2470
              have k_2476 := kk_eq rfl zi_1 c_2471
              refine lv_aload_n hx hb dX10_bestQuestion_59 rfl (lv_at hl 4 rfl) ?_
              refine lv_iload_n hx hb dX10_bestQuestion_60 rfl (lv_at hl 1 rfl) ?_
              refine lv_iload hx hb dX10_bestQuestion_61 (lv_at hl 0 rfl) ?_
              refine cmVi (rest := []) (wsC := [(h0, .inr (10, [.int we_fitting, .ref we_qfitted, .ref we_qsharing, .ref g, .ref sl])), (we_qfitted, .inl (cA 3, 240, .inl we_cfitted)), (we_qsharing, .inl (cA 1, 40, .inl F3_2455)), (g, .inr (3, [.int g_odds, .int g_pot, .int g_lines, .int g_men, .int g_clauses, .int g_winds, .int g_far0, .int g_far1, .ref g_qsides, .ref g_qgrips, .ref g_qwits, .ref g_qsays, .ref g_qgives0, .ref g_qgives1, .ref g_qfroms, .ref g_qtos])), (g_qgrips, .inl (cA 1, 8, .inl g_cgrips)), (g_qwits, .inl (cA 1, 8, .inl g_cwits))]) (wr := [(g_qsides, .inl (cA 1, 8, .inl g_csides))]) ⟨hx, hb, hml, hown, hts⟩ hKN hP hD hS hA [0, 1, 2, 3, 5, 6] [4] rfl rfl (by decide) (by decide) (by decide) (g_X10_mostLeft l D cA _ h0 we_fitting we_qfitted we_qsharing g sl we_cfitted F3_2455 g_odds g_pot g_lines g_men g_clauses g_winds g_far0 g_far1 g_qsides g_qgrips g_qwits g_qsays g_qgives0 g_qgives1 g_qfroms g_qtos g_cgrips g_cwits L3_2210 L4_2455 (by omega) (by omega) (by omega) (by omega) (by omega) (by omega) (by omega)) (tb_V tw_1232 tw_1234 tw_30 tw_113 tw_1235) hdX10_mostLeft ⟨rfl, rfl, Nat.le_of_ble_eq_true rfl, Nat.le_of_ble_eq_true rfl⟩ ⟨Nat.le_of_ble_eq_true rfl, Nat.le_of_ble_eq_true rfl⟩ rfl rfl rfl hl.1 rfl (Nat.le_of_ble_eq_true rfl) dX10_bestQuestion_63 (fun r_2478 u_2478 H locs hr_2478 hP hD hS => ?_)
              have hP : va_P D vwCl [(g_qsides, .inl (cA 1, 8, .inl g_csides)), (h0, .inr (10, [.int we_fitting, .ref we_qfitted, .ref we_qsharing, .ref g, .ref sl])), (we_qfitted, .inl (cA 3, 240, .inl we_cfitted)), (we_qsharing, .inl (cA 1, 40, .inl (u_2478.2.2.1 0))), (g, .inr (3, [.int g_odds, .int g_pot, .int g_lines, .int g_men, .int g_clauses, .int g_winds, .int g_far0, .int g_far1, .ref g_qsides, .ref g_qgrips, .ref g_qwits, .ref g_qsays, .ref g_qgives0, .ref g_qgives1, .ref g_qfroms, .ref g_qtos])), (g_qgrips, .inl (cA 1, 8, .inl g_cgrips)), (g_qwits, .inl (cA 1, 8, .inl g_cwits))] H := hP
              have hD : va_D A [(g_qsides, .inl (cA 1, 8, .inl g_csides)), (h0, .inr (10, [.int we_fitting, .ref we_qfitted, .ref we_qsharing, .ref g, .ref sl])), (we_qfitted, .inl (cA 3, 240, .inl we_cfitted)), (we_qsharing, .inl (cA 1, 40, .inl (u_2478.2.2.1 0))), (g, .inr (3, [.int g_odds, .int g_pot, .int g_lines, .int g_men, .int g_clauses, .int g_winds, .int g_far0, .int g_far1, .ref g_qsides, .ref g_qgrips, .ref g_qwits, .ref g_qsays, .ref g_qgives0, .ref g_qgives1, .ref g_qfroms, .ref g_qtos])), (g_qgrips, .inl (cA 1, 8, .inl g_cgrips)), (g_qwits, .inl (cA 1, 8, .inl g_cwits))] := hD
              have hr_2478_r := hr_2478
              refine lv_istore (lv' := [(5, .int r_2478), (4, .int L4_2455), (3, .int L3_2210), (2, .int L2_2455), (1, .int L1_2455), (0, .ref h0)]) hx hb dX10_bestQuestion_66 hl (by decide) rfl (fun ls hl => ?_)
              refine lv_iload hx hb dX10_bestQuestion_68 (lv_at hl 0 rfl) ?_
              refine lv_iload_n hx hb dX10_bestQuestion_70 rfl (lv_at hl 3 rfl) ?_
              refine lv_icmp_ge (tgt := 85) hx hb dX10_bestQuestion_71 (by decide) (fun c_2479 => ?_) (fun c_2479 => ?_)
              · skip
                have b_2481 := i32_bd L2_2455
                have k_2480 := kk_le rfl rfl c_2479
                obtain ⟨x_2482, ex_2482⟩ : ∃ y : Int32, L4_2455 + Int32.ofInt 1 = y := ⟨_, rfl⟩
                have k_2483 := ar_add (b := 1) rfl zi_1 ex_2482.symm (by omega) (by omega)
                refine lv_iinc (v := x_2482) (lv' := [(4, .int x_2482), (5, .int r_2478), (3, .int L3_2210), (2, .int L2_2455), (1, .int L1_2455), (0, .ref h0)]) hx hb dX10_bestQuestion_85 hl (k := 1) rfl ex_2482 (by decide) rfl (fun ls hl => ?_)
                refine lv_goto (tgt := 23) hx hb dX10_bestQuestion_88 (by decide) ?_
                exact ih_2455 (x_2482, L2_2455, L1_2455, (u_2478.2.2.1 0)) _ _ _ ⟨(show 0 ≤ x_2482.toInt ∧ x_2482.toInt ≤ 8 from by omega), (show -1 ≤ L1_2455.toInt ∧ L1_2455.toInt ≤ 77 from by omega), hP.sub [1, 2, 3, 4, 0, 5, 6] rfl, hD.sub [1, 2, 3, 4, 0, 5, 6] (by decide) rfl, hS, lv_sub hl [0, 2, 3, 4, 5] rfl⟩ (by show (2147483647 - x_2482.toInt).toNat < (2147483647 - L4_2455.toInt).toNat; omega)
              · skip
                have b_2485 := i32_bd L2_2455
                have k_2484 := kk_nle rfl rfl c_2479
                refine lv_bipush (v := 10) hx hb dX10_bestQuestion_74 (by decide) ?_
                refine lv_iload_n hx hb dX10_bestQuestion_76 rfl (lv_at hl 2 rfl) ?_
                refine lv_imul hx hb dX10_bestQuestion_77 ?_
                refine lv_topi (fun x_2486 ex_2486 => ?_)
                have k_2487 := ar_mul zi_10 rfl ex_2486 (by omega) (by omega)
                refine lv_iload hx hb dX10_bestQuestion_78 (lv_at hl 1 rfl) ?_
                refine lv_iadd hx hb dX10_bestQuestion_80 ?_
                refine lv_topi (fun x_2488 ex_2488 => ?_)
                have k_2489 := ar_add rfl rfl ex_2488 (by omega) (by omega)
                refine lv_istore_n (lv' := [(1, .int x_2488), (5, .int r_2478), (4, .int L4_2455), (3, .int L3_2210), (2, .int L2_2455), (0, .ref h0)]) hx hb dX10_bestQuestion_81 rfl hl (by decide) rfl (fun ls hl => ?_)
                refine lv_iload hx hb dX10_bestQuestion_82 (lv_at hl 1 rfl) ?_
                refine lv_istore_n (lv' := [(2, .int r_2478), (1, .int x_2488), (5, .int r_2478), (4, .int L4_2455), (3, .int L3_2210), (0, .ref h0)]) hx hb dX10_bestQuestion_84 rfl hl (by decide) rfl (fun ls hl => ?_)
                obtain ⟨x_2490, ex_2490⟩ : ∃ y : Int32, L4_2455 + Int32.ofInt 1 = y := ⟨_, rfl⟩
                have k_2491 := ar_add (b := 1) rfl zi_1 ex_2490.symm (by omega) (by omega)
                refine lv_iinc (v := x_2490) (lv' := [(4, .int x_2490), (2, .int r_2478), (1, .int x_2488), (5, .int r_2478), (3, .int L3_2210), (0, .ref h0)]) hx hb dX10_bestQuestion_85 hl (k := 3) rfl ex_2490 (by decide) rfl (fun ls hl => ?_)
                refine lv_goto (tgt := 23) hx hb dX10_bestQuestion_88 (by decide) ?_
                exact ih_2455 (x_2490, r_2478, x_2488, (u_2478.2.2.1 0)) _ _ _ ⟨(show 0 ≤ x_2490.toInt ∧ x_2490.toInt ≤ 8 from by omega), (show -1 ≤ x_2488.toInt ∧ x_2488.toInt ≤ 77 from by omega), hP.sub [1, 2, 3, 4, 0, 5, 6] rfl, hD.sub [1, 2, 3, 4, 0, 5, 6] (by decide) rfl, hS, lv_sub hl [0, 4, 1, 2, 5] rfl⟩ (by show (2147483647 - x_2490.toInt).toNat < (2147483647 - L4_2455.toInt).toNat; omega)
          · skip
            refine lv_iconst (v := 1) hx hb dX10_bestQuestion_55 (by decide) ?_
            refine lv_icmp_ne (tgt := 85) hx hb dX10_bestQuestion_56 (by decide) (fun c_2492 => ?_) (fun c_2492 => absurd c_2492 (by decide))
            obtain ⟨x_2493, ex_2493⟩ : ∃ y : Int32, L4_2455 + Int32.ofInt 1 = y := ⟨_, rfl⟩
            have k_2494 := ar_add (b := 1) rfl zi_1 ex_2493.symm (by omega) (by omega)
            refine lv_iinc (v := x_2493) (lv' := [(4, .int x_2493), (3, .int L3_2210), (2, .int L2_2455), (1, .int L1_2455), (0, .ref h0)]) hx hb dX10_bestQuestion_85 hl (k := 0) rfl ex_2493 (by decide) rfl (fun ls hl => ?_)
            refine lv_goto (tgt := 23) hx hb dX10_bestQuestion_88 (by decide) ?_
            exact ih_2455 (x_2493, L2_2455, L1_2455, F3_2455) _ _ _ ⟨(show 0 ≤ x_2493.toInt ∧ x_2493.toInt ≤ 8 from by omega), (show -1 ≤ L1_2455.toInt ∧ L1_2455.toInt ≤ 77 from by omega), hP.sub [0, 1, 2, 3, 4, 5, 6] rfl, hD.sub [0, 1, 2, 3, 4, 5, 6] (by decide) rfl, hS, lv_sub hl [0, 1, 2, 3, 4] rfl⟩ (by show (2147483647 - x_2493.toInt).toNat < (2147483647 - L4_2455.toInt).toNat; omega)
      · skip
        refine lv_if_ne (tgt := 85) hx hb dX10_bestQuestion_43 (by decide) (fun c_2495 => ?_) (fun c_2495 => absurd c_2495 (by decide))
        obtain ⟨x_2496, ex_2496⟩ : ∃ y : Int32, L4_2455 + Int32.ofInt 1 = y := ⟨_, rfl⟩
        have k_2497 := ar_add (b := 1) rfl zi_1 ex_2496.symm (by omega) (by omega)
        refine lv_iinc (v := x_2496) (lv' := [(4, .int x_2496), (3, .int L3_2210), (2, .int L2_2455), (1, .int L1_2455), (0, .ref h0)]) hx hb dX10_bestQuestion_85 hl (k := 0) rfl ex_2496 (by decide) rfl (fun ls hl => ?_)
        refine lv_goto (tgt := 23) hx hb dX10_bestQuestion_88 (by decide) ?_
        exact ih_2455 (x_2496, L2_2455, L1_2455, F3_2455) _ _ _ ⟨(show 0 ≤ x_2496.toInt ∧ x_2496.toInt ≤ 8 from by omega), (show -1 ≤ L1_2455.toInt ∧ L1_2455.toInt ≤ 77 from by omega), hP.sub [0, 1, 2, 3, 4, 5, 6] rfl, hD.sub [0, 1, 2, 3, 4, 5, 6] (by decide) rfl, hS, lv_sub hl [0, 1, 2, 3, 4] rfl⟩ (by show (2147483647 - x_2496.toInt).toNat < (2147483647 - L4_2455.toInt).toNat; omega)

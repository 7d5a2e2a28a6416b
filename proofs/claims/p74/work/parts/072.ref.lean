theorem zi_33 : (33 : Int32).toInt = 33 := by decide
theorem zi_54 : (54 : Int32).toInt = 54 := by decide
theorem zi_9 : (9 : Int32).toInt = 9 := by decide
theorem zj_2 : (2 : Int64).toInt = 2 := by decide
theorem zj_2000000000 : (2000000000 : Int64).toInt = 2000000000 := by decide
theorem zj_3 : (3 : Int64).toInt = 3 := by decide
set_option maxHeartbeats 8000000 in
set_option maxRecDepth 100000 in
theorem g_X12_in (l : Launch) (D : va_G) (cA : Nat → ClassId) (p0 : Int64) (p1 : Int64) (p2 : Int64) : Met l yX12_in (Cond.code yX12_in cX12_in 6 (some .boolean) :: TB) (rmd 0 0 0) (PP D cA [] [.long p0, .long p1, .long p2]) (vp_Si (fun r => (((p1 : Int64).toInt ≤ (p0 : Int64).toInt) ∧ ((p0 : Int64).toInt ≤ (p2 : Int64).toInt) ∧ (r = 1)) ∨ (((p0 : Int64).toInt < (p1 : Int64).toInt ∨ (p2 : Int64).toInt < (p0 : Int64).toInt) ∧ (r = 0)))) 0 0 (fun _ => False) := by
  refine Met.ofW (cc := cX12_in) (maxL := 6) (ret := (some .boolean)) (by decide) rfl ?_
  intro p e s m args below meth c s₁ B hml hv
  obtain ⟨rfl, hP, hKN⟩ := hv
  have hx := B.exec
  have hb := B.bytes
  have hr := B.returns
  have hts : ∀ w ∈ TB, w.before _ s = true := fun w h => atoms_spec B.pre w (List.mem_cons_of_mem _ h)
  have hown : s.vm.findClass RX12 = some m.cls := findClass_of_methodNamed B.named
  have hlocks := B.notSynchronized
  have hl := lv_entry ([.long p0, .long p1, .long p2]) (n := 6) (Nat.le_of_ble_eq_true rfl)
  rw [lg_entry_eq]
  generalize (lg_sl ([.long p0, .long p1, .long p2]) ++ List.replicate (6 - (lg_sl ([.long p0, .long p1, .long p2])).length) Slot.unset).toArray = ls at hl ⊢
  have hl : lv_has ls 6 [(0, .long p0), (2, .long p1), (4, .long p2)] := hl
  refine lv_lload_n hx hb dX12_in_0 rfl (lv_at hl 0 rfl) ?_
  refine lv_lload_n hx hb dX12_in_1 rfl (lv_at hl 1 rfl) ?_
  refine W.lcmp hx hb dX12_in_2 ?_
  refine lv_if_lt (tgt := 17) hx hb dX12_in_3 (by decide) (fun c_1 => ?_) (fun c_1 => ?_)
  · skip
    have b_3 := i64_bd p0
    have b_4 := i64_bd p1
    have k_2 := jj_lt rfl rfl c_1
    refine lv_iconst (v := 0) hx hb dX12_in_17 (by decide) ?_
    exact W.zret (v := 0) hx hb hr (by decide) (fun t ht hW => ⟨0, rfl, (Or.inr (⟨(by first | omega | assumption), rfl⟩)), ht⟩) (fun _ h => by cases h) dX12_in_18
  · skip
    have b_6 := i64_bd p0
    have b_7 := i64_bd p1
    have k_5 := jj_nlt rfl rfl c_1
    refine lv_lload_n hx hb dX12_in_6 rfl (lv_at hl 0 rfl) ?_
    refine lv_lload hx hb dX12_in_7 (lv_at hl 2 rfl) ?_
    refine W.lcmp hx hb dX12_in_9 ?_
    refine lv_if_gt (tgt := 17) hx hb dX12_in_10 (by decide) (fun c_8 => ?_) (fun c_8 => ?_)
    · skip
      have b_10 := i64_bd p2
      have k_9 := jj_gt rfl rfl c_8
      refine lv_iconst (v := 0) hx hb dX12_in_17 (by decide) ?_
      exact W.zret (v := 0) hx hb hr (by decide) (fun t ht hW => ⟨0, rfl, (Or.inr (⟨(by first | omega | assumption), rfl⟩)), ht⟩) (fun _ h => by cases h) dX12_in_18
    · skip
      have b_12 := i64_bd p2
      have k_11 := jj_ngt rfl rfl c_8
      refine lv_iconst (v := 1) hx hb dX12_in_13 (by decide) ?_
      refine lv_goto (tgt := 18) hx hb dX12_in_14 (by decide) ?_
      exact W.zret (v := 1) hx hb hr (by decide) (fun t ht hW => ⟨1, rfl, (Or.inl (⟨(by first | omega | assumption), (by first | omega | assumption), rfl⟩)), ht⟩) (fun _ h => by cases h) dX12_in_18
set_option maxHeartbeats 8000000 in
set_option maxRecDepth 100000 in
theorem g_X12_bits (l : Launch) (D : va_G) (cA : Nat → ClassId) (p0 : Int32) : Met l yX12_bits (Cond.code yX12_bits cX12_bits 3 (some .int) :: TB) (rmd 0 0 0) (PP D cA [] [.int p0]) (vp_Si (fun r => True)) 0 0 (fun _ => False) := by
  refine Met.ofW (cc := cX12_bits) (maxL := 3) (ret := (some .int)) (by decide) rfl ?_
  intro p e s m args below meth c s₁ B hml hv
  obtain ⟨rfl, hP, hKN⟩ := hv
  have hx := B.exec
  have hb := B.bytes
  have hr := B.returns
  have hts : ∀ w ∈ TB, w.before _ s = true := fun w h => atoms_spec B.pre w (List.mem_cons_of_mem _ h)
  have hown : s.vm.findClass RX12 = some m.cls := findClass_of_methodNamed B.named
  have hlocks := B.notSynchronized
  have hl := lv_entry ([.int p0]) (n := 3) (Nat.le_of_ble_eq_true rfl)
  rw [lg_entry_eq]
  generalize (lg_sl ([.int p0]) ++ List.replicate (3 - (lg_sl ([.int p0])).length) Slot.unset).toArray = ls at hl ⊢
  have hl : lv_has ls 3 [(0, .int p0)] := hl
  refine lv_iconst (v := 0) hx hb dX12_bits_0 (by decide) ?_
  refine lv_istore_n (lv' := [(1, .int 0), (0, .int p0)]) hx hb dX12_bits_1 rfl hl (by decide) rfl (fun ls hl => ?_)
  refine lv_iconst (v := 0) hx hb dX12_bits_2 (by decide) ?_
  refine lv_istore_n (lv' := [(2, .int 0), (1, .int 0), (0, .int p0)]) hx hb dX12_bits_3 rfl hl (by decide) rfl (fun ls hl => ?_)
  refine loopW (σ := Int32 × Int32) (fun _ => []) (fun ⟨L2_73, L1_73⟩ H locs ls => (0 ≤ L2_73.toInt ∧ L2_73.toInt ≤ 8) ∧ H = s.heap ∧ locs = [] ∧ lv_has ls 3 [(2, .int L2_73), (1, .int L1_73), (0, .int p0)]) (fun ⟨L2_73, L1_73⟩ => (2147483647 - L2_73.toInt).toNat) ?_ ((0, 0) : Int32 × Int32) ⟨(by decide), rfl, rfl, hl⟩
  intro x_73 H locs ls hI_73 ih_73
  obtain ⟨L2_73, L1_73⟩ := x_73
  obtain ⟨k0_73, rfl, rfl, hl⟩ := hI_73
  have hl : lv_has ls 3 [(2, .int L2_73), (1, .int L1_73), (0, .int p0)] := hl
  refine lv_iload_n hx hb dX12_bits_4 rfl (lv_at hl 0 rfl) ?_
  refine lv_bipush (v := 8) hx hb dX12_bits_5 (by decide) ?_
  refine lv_icmp_ge (tgt := 24) hx hb dX12_bits_7 (by decide) (fun c_74 => ?_) (fun c_74 => ?_)
  · skip
    have k_75 := kk_le zi_8 rfl c_74
    refine lv_iload_n hx hb dX12_bits_24 rfl (lv_at hl 1 rfl) ?_
    exact W.iret (v := L1_73) hx hb hr (fun t ht hW => ⟨L1_73, rfl, trivial, ht⟩) (fun _ h => by cases h) dX12_bits_25
  · skip
    have k_76 := kk_nle zi_8 rfl c_74
    refine lv_iload_n hx hb dX12_bits_10 rfl (lv_at hl 1 rfl) ?_
    refine lv_iload_n hx hb dX12_bits_11 rfl (lv_at hl 2 rfl) ?_
    refine lv_iload_n hx hb dX12_bits_12 rfl (lv_at hl 0 rfl) ?_
    refine lv_ishr hx hb dX12_bits_13 ?_
    refine lv_topi (fun x_77 ex_77 => ?_)
    refine lv_iconst (v := 1) hx hb dX12_bits_14 (by decide) ?_
    refine lv_iand hx hb dX12_bits_15 ?_
    refine lv_topi (fun x_79 ex_79 => ?_)
    have k_80 := ar_andR zi_1 ex_79 (by omega)
    refine lv_iadd hx hb dX12_bits_16 ?_
    refine lv_topi (fun x_81 ex_81 => ?_)
    refine lv_istore_n (lv' := [(1, .int x_81), (2, .int L2_73), (0, .int p0)]) hx hb dX12_bits_17 rfl hl (by decide) rfl (fun ls hl => ?_)
    obtain ⟨x_83, ex_83⟩ : ∃ y : Int32, L2_73 + Int32.ofInt 1 = y := ⟨_, rfl⟩
    have k_84 := ar_add (b := 1) rfl zi_1 ex_83.symm (by omega) (by omega)
    refine lv_iinc (v := x_83) (lv' := [(2, .int x_83), (1, .int x_81), (0, .int p0)]) hx hb dX12_bits_18 hl (k := 1) rfl ex_83 (by decide) rfl (fun ls hl => ?_)
    refine lv_goto (tgt := 4) hx hb dX12_bits_21 (by decide) ?_
    exact ih_73 (x_83, x_81) _ _ _ ⟨(show 0 ≤ x_83.toInt ∧ x_83.toInt ≤ 8 from by omega), rfl, rfl, lv_sub hl [0, 1, 2] rfl⟩ (by show (2147483647 - x_83.toInt).toNat < (2147483647 - L2_73.toInt).toNat; omega)
set_option maxHeartbeats 8000000 in
set_option maxRecDepth 100000 in
theorem g_X12_bit (l : Launch) (D : va_G) (cA : Nat → ClassId) (p0 : Int32) (p1 : Int32) : Met l yX12_bit (Cond.code yX12_bit cX12_bit 2 (some .int) :: TB) (rmd 0 0 0) (PP D cA [] [.int p0, .int p1]) (vp_Si (fun r => 0 ≤ r.toInt ∧ r.toInt ≤ 1)) 0 0 (fun _ => False) := by
  refine Met.ofW (cc := cX12_bit) (maxL := 2) (ret := (some .int)) (by decide) rfl ?_
  intro p e s m args below meth c s₁ B hml hv
  obtain ⟨rfl, hP, hKN⟩ := hv
  have hx := B.exec
  have hb := B.bytes
  have hr := B.returns
  have hts : ∀ w ∈ TB, w.before _ s = true := fun w h => atoms_spec B.pre w (List.mem_cons_of_mem _ h)
  have hown : s.vm.findClass RX12 = some m.cls := findClass_of_methodNamed B.named
  have hlocks := B.notSynchronized
  have hl := lv_entry ([.int p0, .int p1]) (n := 2) (Nat.le_of_ble_eq_true rfl)
  rw [lg_entry_eq]
  generalize (lg_sl ([.int p0, .int p1]) ++ List.replicate (2 - (lg_sl ([.int p0, .int p1])).length) Slot.unset).toArray = ls at hl ⊢
  have hl : lv_has ls 2 [(0, .int p0), (1, .int p1)] := hl
  refine lv_iload_n hx hb dX12_bit_0 rfl (lv_at hl 0 rfl) ?_
  refine lv_iload_n hx hb dX12_bit_1 rfl (lv_at hl 1 rfl) ?_
  refine lv_ishr hx hb dX12_bit_2 ?_
  refine lv_topi (fun x_1 ex_1 => ?_)
  refine lv_iconst (v := 1) hx hb dX12_bit_3 (by decide) ?_
  refine lv_iand hx hb dX12_bit_4 ?_
  refine lv_topi (fun x_3 ex_3 => ?_)
  have k_4 := ar_andR zi_1 ex_3 (by omega)
  exact W.iret (v := x_3) hx hb hr (fun t ht hW => ⟨x_3, rfl, (show 0 ≤ x_3.toInt ∧ x_3.toInt ≤ 1 from by omega), ht⟩) (fun _ h => by cases h) dX12_bit_5
set_option maxHeartbeats 8000000 in
set_option maxRecDepth 100000 in
theorem g_X12_isGorge (l : Launch) (D : va_G) (cA : Nat → ClassId) (h0 : Nat) (m_thrown : Int32) (m_qworld : Nat) (m_qimages : Nat) (m_qhasImage : Nat) (m_qtape : Nat) (m_taped : Int32) (m_qfive : Nat) (m_size : Int32) (m_at : Int32) (m_from : Int32) (m_token : Int32) (m_value : Int32) (m_faultKind : Int32) (m_faultPlace : Int32) (m_qfresh : Nat) (m_startOne : Int32) (m_startOther : Int32) (m_latest : Int32) (m_leftBeats : Int32) (m_signed : Int32) (m_metMany : Int32) (m_qsums : Nat) (m_qpairs : Nat) (m_qgoesWith : Nat) (m_qsaid : Nat) (m_saidMany : Int32) (m_firstWait : Int32) (m_qfirstOrder : Nat) (m_bundleFirst : Int32) (m_qtiredBy : Nat) (m_tiredMany : Int32) (m_qmany : Nat) (m_qwidth : Nat) (m_qnumbers : Nat) (m_qmoving : Nat) (m_cworld : Nat → Int32) (h_m_taped : 0 ≤ (m_taped : Int32).toInt ∧ (m_taped : Int32).toInt ≤ 800) (h_m_size : 0 ≤ (m_size : Int32).toInt ∧ (m_size : Int32).toInt ≤ 800) (h_m_at : 0 ≤ (m_at : Int32).toInt ∧ (m_at : Int32).toInt ≤ 800) (h_m_from : 0 ≤ (m_from : Int32).toInt ∧ (m_from : Int32).toInt ≤ 800) (h_m_saidMany : 0 ≤ (m_saidMany : Int32).toInt ∧ (m_saidMany : Int32).toInt ≤ 60) (h_m_tiredMany : 0 ≤ (m_tiredMany : Int32).toInt ∧ (m_tiredMany : Int32).toInt ≤ 240) (a_m_cworld_0 : WI m_cworld) : Met l yX12_isGorge (Cond.code yX12_isGorge cX12_isGorge 1 (some .boolean) :: TB) (rmd 0 0 0) (PP D cA [(h0, .inr (12, [.int m_thrown, .ref m_qworld, .ref m_qimages, .ref m_qhasImage, .ref m_qtape, .int m_taped, .ref m_qfive, .int m_size, .int m_at, .int m_from, .int m_token, .int m_value, .int m_faultKind, .int m_faultPlace, .ref m_qfresh, .int m_startOne, .int m_startOther, .int m_latest, .int m_leftBeats, .int m_signed, .int m_metMany, .ref m_qsums, .ref m_qpairs, .ref m_qgoesWith, .ref m_qsaid, .int m_saidMany, .int m_firstWait, .ref m_qfirstOrder, .int m_bundleFirst, .ref m_qtiredBy, .int m_tiredMany, .ref m_qmany, .ref m_qwidth, .ref m_qnumbers, .ref m_qmoving])), (m_qworld, .inl (cA 1, 122, .inl m_cworld))] [.ref h0]) (vp_Si (fun r => ((1 ≤ (m_cworld 0).toInt) ∧ (1 ≤ (m_cworld 1).toInt) ∧ ((m_cworld 0).toInt ≤ 20) ∧ ((m_cworld 1).toInt ≤ 20) ∧ (r = 1)) ∨ ((r = 0)))) 0 0 (fun _ => False) := by
  refine Met.ofW (cc := cX12_isGorge) (maxL := 1) (ret := (some .boolean)) (by decide) rfl ?_
  intro p e s m args below meth c s₁ B hml hv
  obtain ⟨rfl, hP, hKN⟩ := hv
  have hx := B.exec
  have hb := B.bytes
  have hr := B.returns
  have hts : ∀ w ∈ TB, w.before _ s = true := fun w h => atoms_spec B.pre w (List.mem_cons_of_mem _ h)
  have hown : s.vm.findClass RX12 = some m.cls := findClass_of_methodNamed B.named
  have hlocks := B.notSynchronized
  have hl := lv_entry ([.ref h0]) (n := 1) (Nat.le_of_ble_eq_true rfl)
  rw [lg_entry_eq]
  generalize (lg_sl ([.ref h0]) ++ List.replicate (1 - (lg_sl ([.ref h0])).length) Slot.unset).toArray = ls at hl ⊢
  have hl : lv_has ls 1 [(0, .ref h0)] := hl
  have hFI : FARI m_cworld := a_m_cworld_0.2
  have hf_0 := a_m_cworld_0.1.1.1 0 (by decide) (by decide)
  have hf_1 := a_m_cworld_0.1.1.1 1 (by decide) (by decide)
  refine lv_aload_n hx hb dX12_isGorge_0 rfl (lv_at hl 0 rfl) ?_
  refine va_get (D := D) (ci := 12) (v := .ref m_qworld) (C := RX12) (T := TX12) (N := 35) hx hb hts inX12 hown hKN.1 hP 0 rfl rfl 1 (by decide) (hts _ tw_1420) (fun _ h9 => h9) rfl dX12_isGorge_1 ?_
  refine lv_bipush (v := 8) hx hb dX12_isGorge_4 (by decide) ?_
  refine va_iald hx hb hKN.1 hP 1 1 rfl rfl (by unfold vp_in; decide) dX12_isGorge_6 ?_
  refine W.eq (g2 := F0 m 7 ls [.int (m_cworld 8)]) rfl ?_
  have k_1 := a_m_cworld_0.1.1.2.2.2.2.2.2.2.1 (8) (by decide) (by decide)
  refine lv_if_le (tgt := 14) hx hb dX12_isGorge_7 (by decide) (fun c_2 => ?_) (fun c_2 => ?_)
  · skip
    have k_3 := kk_le rfl zi_0 c_2
    refine lv_iconst (v := 0) hx hb dX12_isGorge_14 (by decide) ?_
    exact W.zret (v := 0) hx hb hr (by decide) (fun t ht hW => ⟨0, rfl, (Or.inr (rfl)), ht⟩) (fun _ h => by cases h) dX12_isGorge_15
  · skip
    have k_4 := kk_nle rfl zi_0 c_2
    refine lv_iconst (v := 1) hx hb dX12_isGorge_10 (by decide) ?_
    refine lv_goto (tgt := 15) hx hb dX12_isGorge_11 (by decide) ?_
    exact W.zret (v := 1) hx hb hr (by decide) (fun t ht hW => ⟨1, rfl, (Or.inl (⟨(by first | omega | assumption), (by first | omega | assumption), (by first | omega | assumption), (by first | omega | assumption), rfl⟩)), ht⟩) (fun _ h => by cases h) dX12_isGorge_15
set_option maxHeartbeats 8000000 in
set_option maxRecDepth 100000 in
theorem g_X12_isMan (l : Launch) (D : va_G) (cA : Nat → ClassId) (h0 : Nat) (m_thrown : Int32) (m_qworld : Nat) (m_qimages : Nat) (m_qhasImage : Nat) (m_qtape : Nat) (m_taped : Int32) (m_qfive : Nat) (m_size : Int32) (m_at : Int32) (m_from : Int32) (m_token : Int32) (m_value : Int32) (m_faultKind : Int32) (m_faultPlace : Int32) (m_qfresh : Nat) (m_startOne : Int32) (m_startOther : Int32) (m_latest : Int32) (m_leftBeats : Int32) (m_signed : Int32) (m_metMany : Int32) (m_qsums : Nat) (m_qpairs : Nat) (m_qgoesWith : Nat) (m_qsaid : Nat) (m_saidMany : Int32) (m_firstWait : Int32) (m_qfirstOrder : Nat) (m_bundleFirst : Int32) (m_qtiredBy : Nat) (m_tiredMany : Int32) (m_qmany : Nat) (m_qwidth : Nat) (m_qnumbers : Nat) (m_qmoving : Nat) (m_cworld : Nat → Int32) (p0 : Int64) (h_m_taped : 0 ≤ (m_taped : Int32).toInt ∧ (m_taped : Int32).toInt ≤ 800) (h_m_size : 0 ≤ (m_size : Int32).toInt ∧ (m_size : Int32).toInt ≤ 800) (h_m_at : 0 ≤ (m_at : Int32).toInt ∧ (m_at : Int32).toInt ≤ 800) (h_m_from : 0 ≤ (m_from : Int32).toInt ∧ (m_from : Int32).toInt ≤ 800) (h_m_saidMany : 0 ≤ (m_saidMany : Int32).toInt ∧ (m_saidMany : Int32).toInt ≤ 60) (h_m_tiredMany : 0 ≤ (m_tiredMany : Int32).toInt ∧ (m_tiredMany : Int32).toInt ≤ 240) (a_m_cworld_0 : WI m_cworld) : Met l yX12_isMan (Cond.code yX12_isMan cX12_isMan 3 (some .boolean) :: TB) (rmd 1 0 0) (PP D cA [(h0, .inr (12, [.int m_thrown, .ref m_qworld, .ref m_qimages, .ref m_qhasImage, .ref m_qtape, .int m_taped, .ref m_qfive, .int m_size, .int m_at, .int m_from, .int m_token, .int m_value, .int m_faultKind, .int m_faultPlace, .ref m_qfresh, .int m_startOne, .int m_startOther, .int m_latest, .int m_leftBeats, .int m_signed, .int m_metMany, .ref m_qsums, .ref m_qpairs, .ref m_qgoesWith, .ref m_qsaid, .int m_saidMany, .int m_firstWait, .ref m_qfirstOrder, .int m_bundleFirst, .ref m_qtiredBy, .int m_tiredMany, .ref m_qmany, .ref m_qwidth, .ref m_qnumbers, .ref m_qmoving])), (m_qworld, .inl (cA 1, 122, .inl m_cworld))] [.ref h0, .long p0]) (vp_Si (fun r => ((0 ≤ (p0 : Int64).toInt) ∧ ((p0 : Int64).toInt ≤ 7) ∧ (1 ≤ (m_cworld 0).toInt) ∧ (1 ≤ (m_cworld 1).toInt) ∧ ((m_cworld 0).toInt ≤ 20) ∧ ((m_cworld 1).toInt ≤ 20) ∧ (r = 1)) ∨ ((r = 0)))) 0 0 (fun _ => False) := by
  refine Met.ofW (cc := cX12_isMan) (maxL := 3) (ret := (some .boolean)) (by decide) rfl ?_
  intro p e s m args below meth c s₁ B hml hv
  obtain ⟨rfl, hP, hKN⟩ := hv
  have hx := B.exec
  have hb := B.bytes
  have hr := B.returns
  have hts : ∀ w ∈ TB, w.before _ s = true := fun w h => atoms_spec B.pre w (List.mem_cons_of_mem _ h)
  have hown : s.vm.findClass RX12 = some m.cls := findClass_of_methodNamed B.named
  have hlocks := B.notSynchronized
  have hl := lv_entry ([.ref h0, .long p0]) (n := 3) (Nat.le_of_ble_eq_true rfl)
  rw [lg_entry_eq]
  generalize (lg_sl ([.ref h0, .long p0]) ++ List.replicate (3 - (lg_sl ([.ref h0, .long p0])).length) Slot.unset).toArray = ls at hl ⊢
  have hl : lv_has ls 3 [(0, .ref h0), (1, .long p0)] := hl
  have hFI : FARI m_cworld := a_m_cworld_0.2
  have hf_0 := a_m_cworld_0.1.1.1 0 (by decide) (by decide)
  have hf_1 := a_m_cworld_0.1.1.1 1 (by decide) (by decide)
  refine lv_lload_n hx hb dX12_isMan_0 rfl (lv_at hl 1 rfl) ?_
  refine lv_lconst (v := 0) hx hb dX12_isMan_1 (by decide) ?_
  refine lv_aload_n hx hb dX12_isMan_2 rfl (lv_at hl 0 rfl) ?_
  refine va_get (D := D) (ci := 12) (v := .ref m_qworld) (C := RX12) (T := TX12) (N := 35) hx hb hts inX12 hown hKN.1 hP 0 rfl rfl 1 (by decide) (hts _ tw_1420) (fun _ h9 => h9) rfl dX12_isMan_3 ?_
  refine lv_iconst (v := 4) hx hb dX12_isMan_6 (by decide) ?_
  refine va_iald hx hb hKN.1 hP 1 1 rfl rfl (by unfold vp_in; decide) dX12_isMan_7 ?_
  refine W.eq (g2 := F0 m 8 ls [.int (m_cworld 4), .long 0, .long p0]) rfl ?_
  have k_1 := a_m_cworld_0.1.1.2.2.2.1 (4) (by decide) (by decide)
  refine lv_iconst (v := 1) hx hb dX12_isMan_8 (by decide) ?_
  refine lv_isub hx hb dX12_isMan_9 ?_
  refine lv_topi (fun x_2 ex_2 => ?_)
  have k_3 := ar_sub rfl zi_1 ex_2 (by omega) (by omega)
  obtain ⟨x_4, ex_4⟩ : ∃ y, x_2.toInt64 = y := ⟨_, rfl⟩
  refine lv_i2l (v := x_4) hx hb dX12_isMan_10 ex_4 ?_
  have k_5 := tt_i2l ex_4
  have z_6 := zj_0
  refine cpSi (rest := []) ⟨hx, hb, hml, hown, hts⟩ hKN (hP.sub (ws' := []) [] rfl) (g_X12_in l D cA p0 0 x_4) (tb_S tw_1530 tw_1531 tw_114 tw_1532) hdX12_in ⟨rfl, rfl, Nat.le_of_ble_eq_true rfl, Nat.le_of_ble_eq_true rfl⟩ ⟨Nat.le_of_ble_eq_true rfl, Nat.le_of_ble_eq_true rfl⟩ rfl hl.1 rfl (Nat.le_of_ble_eq_true rfl) dX12_isMan_11 (fun r_7 hr_7 => ?_)
  rcases hr_7 with ⟨k_7_0_0, k_7_0_1, rfl⟩ | ⟨k_7_1_0, rfl⟩
  · skip
    exact W.zret (v := 1) hx hb hr (by decide) (fun t ht hW => ⟨1, rfl, (Or.inl (⟨(by first | omega | assumption), (by first | omega | assumption), (by first | omega | assumption), (by first | omega | assumption), (by first | omega | assumption), (by first | omega | assumption), rfl⟩)), ht⟩) (fun _ h => by cases h) dX12_isMan_14
  · skip
    exact W.zret (v := 0) hx hb hr (by decide) (fun t ht hW => ⟨0, rfl, (Or.inr (rfl)), ht⟩) (fun _ h => by cases h) dX12_isMan_14
set_option maxHeartbeats 8000000 in
set_option maxRecDepth 100000 in
theorem g_X12_isClause (l : Launch) (D : va_G) (cA : Nat → ClassId) (h0 : Nat) (m_thrown : Int32) (m_qworld : Nat) (m_qimages : Nat) (m_qhasImage : Nat) (m_qtape : Nat) (m_taped : Int32) (m_qfive : Nat) (m_size : Int32) (m_at : Int32) (m_from : Int32) (m_token : Int32) (m_value : Int32) (m_faultKind : Int32) (m_faultPlace : Int32) (m_qfresh : Nat) (m_startOne : Int32) (m_startOther : Int32) (m_latest : Int32) (m_leftBeats : Int32) (m_signed : Int32) (m_metMany : Int32) (m_qsums : Nat) (m_qpairs : Nat) (m_qgoesWith : Nat) (m_qsaid : Nat) (m_saidMany : Int32) (m_firstWait : Int32) (m_qfirstOrder : Nat) (m_bundleFirst : Int32) (m_qtiredBy : Nat) (m_tiredMany : Int32) (m_qmany : Nat) (m_qwidth : Nat) (m_qnumbers : Nat) (m_qmoving : Nat) (m_cworld : Nat → Int32) (p0 : Int64) (h_m_taped : 0 ≤ (m_taped : Int32).toInt ∧ (m_taped : Int32).toInt ≤ 800) (h_m_size : 0 ≤ (m_size : Int32).toInt ∧ (m_size : Int32).toInt ≤ 800) (h_m_at : 0 ≤ (m_at : Int32).toInt ∧ (m_at : Int32).toInt ≤ 800) (h_m_from : 0 ≤ (m_from : Int32).toInt ∧ (m_from : Int32).toInt ≤ 800) (h_m_saidMany : 0 ≤ (m_saidMany : Int32).toInt ∧ (m_saidMany : Int32).toInt ≤ 60) (h_m_tiredMany : 0 ≤ (m_tiredMany : Int32).toInt ∧ (m_tiredMany : Int32).toInt ≤ 240) (a_m_cworld_0 : WI m_cworld) : Met l yX12_isClause (Cond.code yX12_isClause cX12_isClause 3 (some .boolean) :: TB) (rmd 1 0 0) (PP D cA [(h0, .inr (12, [.int m_thrown, .ref m_qworld, .ref m_qimages, .ref m_qhasImage, .ref m_qtape, .int m_taped, .ref m_qfive, .int m_size, .int m_at, .int m_from, .int m_token, .int m_value, .int m_faultKind, .int m_faultPlace, .ref m_qfresh, .int m_startOne, .int m_startOther, .int m_latest, .int m_leftBeats, .int m_signed, .int m_metMany, .ref m_qsums, .ref m_qpairs, .ref m_qgoesWith, .ref m_qsaid, .int m_saidMany, .int m_firstWait, .ref m_qfirstOrder, .int m_bundleFirst, .ref m_qtiredBy, .int m_tiredMany, .ref m_qmany, .ref m_qwidth, .ref m_qnumbers, .ref m_qmoving])), (m_qworld, .inl (cA 1, 122, .inl m_cworld))] [.ref h0, .long p0]) (vp_Si (fun r => ((0 ≤ (p0 : Int64).toInt) ∧ ((p0 : Int64).toInt ≤ 6) ∧ (1 ≤ (m_cworld 0).toInt) ∧ (1 ≤ (m_cworld 1).toInt) ∧ ((m_cworld 0).toInt ≤ 20) ∧ ((m_cworld 1).toInt ≤ 20) ∧ (r = 1)) ∨ ((r = 0)))) 0 0 (fun _ => False) := by
  refine Met.ofW (cc := cX12_isClause) (maxL := 3) (ret := (some .boolean)) (by decide) rfl ?_
  intro p e s m args below meth c s₁ B hml hv
  obtain ⟨rfl, hP, hKN⟩ := hv
  have hx := B.exec
  have hb := B.bytes
  have hr := B.returns
  have hts : ∀ w ∈ TB, w.before _ s = true := fun w h => atoms_spec B.pre w (List.mem_cons_of_mem _ h)
  have hown : s.vm.findClass RX12 = some m.cls := findClass_of_methodNamed B.named
  have hlocks := B.notSynchronized
  have hl := lv_entry ([.ref h0, .long p0]) (n := 3) (Nat.le_of_ble_eq_true rfl)
  rw [lg_entry_eq]
  generalize (lg_sl ([.ref h0, .long p0]) ++ List.replicate (3 - (lg_sl ([.ref h0, .long p0])).length) Slot.unset).toArray = ls at hl ⊢
  have hl : lv_has ls 3 [(0, .ref h0), (1, .long p0)] := hl
  have hFI : FARI m_cworld := a_m_cworld_0.2
  have hf_0 := a_m_cworld_0.1.1.1 0 (by decide) (by decide)
  have hf_1 := a_m_cworld_0.1.1.1 1 (by decide) (by decide)
  refine lv_lload_n hx hb dX12_isClause_0 rfl (lv_at hl 1 rfl) ?_
  refine lv_lconst (v := 0) hx hb dX12_isClause_1 (by decide) ?_
  refine lv_aload_n hx hb dX12_isClause_2 rfl (lv_at hl 0 rfl) ?_
  refine va_get (D := D) (ci := 12) (v := .ref m_qworld) (C := RX12) (T := TX12) (N := 35) hx hb hts inX12 hown hKN.1 hP 0 rfl rfl 1 (by decide) (hts _ tw_1420) (fun _ h9 => h9) rfl dX12_isClause_3 ?_
  refine lv_iconst (v := 5) hx hb dX12_isClause_6 (by decide) ?_
  refine va_iald hx hb hKN.1 hP 1 1 rfl rfl (by unfold vp_in; decide) dX12_isClause_7 ?_
  refine W.eq (g2 := F0 m 8 ls [.int (m_cworld 5), .long 0, .long p0]) rfl ?_
  have k_1 := a_m_cworld_0.1.1.2.2.2.2.1 (5) (by decide) (by decide)
  refine lv_iconst (v := 1) hx hb dX12_isClause_8 (by decide) ?_
  refine lv_isub hx hb dX12_isClause_9 ?_
  refine lv_topi (fun x_2 ex_2 => ?_)
  have k_3 := ar_sub rfl zi_1 ex_2 (by omega) (by omega)
  obtain ⟨x_4, ex_4⟩ : ∃ y, x_2.toInt64 = y := ⟨_, rfl⟩
  refine lv_i2l (v := x_4) hx hb dX12_isClause_10 ex_4 ?_
  have k_5 := tt_i2l ex_4
  have z_6 := zj_0
  refine cpSi (rest := []) ⟨hx, hb, hml, hown, hts⟩ hKN (hP.sub (ws' := []) [] rfl) (g_X12_in l D cA p0 0 x_4) (tb_S tw_1530 tw_1531 tw_114 tw_1532) hdX12_in ⟨rfl, rfl, Nat.le_of_ble_eq_true rfl, Nat.le_of_ble_eq_true rfl⟩ ⟨Nat.le_of_ble_eq_true rfl, Nat.le_of_ble_eq_true rfl⟩ rfl hl.1 rfl (Nat.le_of_ble_eq_true rfl) dX12_isClause_11 (fun r_7 hr_7 => ?_)
  rcases hr_7 with ⟨k_7_0_0, k_7_0_1, rfl⟩ | ⟨k_7_1_0, rfl⟩
  · skip
    exact W.zret (v := 1) hx hb hr (by decide) (fun t ht hW => ⟨1, rfl, (Or.inl (⟨(by first | omega | assumption), (by first | omega | assumption), (by first | omega | assumption), (by first | omega | assumption), (by first | omega | assumption), (by first | omega | assumption), rfl⟩)), ht⟩) (fun _ h => by cases h) dX12_isClause_14
  · skip
    exact W.zret (v := 0) hx hb hr (by decide) (fun t ht hW => ⟨0, rfl, (Or.inr (rfl)), ht⟩) (fun _ h => by cases h) dX12_isClause_14
set_option maxHeartbeats 8000000 in
set_option maxRecDepth 100000 in
theorem g_X12_isSide (l : Launch) (D : va_G) (cA : Nat → ClassId) (h0 : Nat) (m_thrown : Int32) (m_qworld : Nat) (m_qimages : Nat) (m_qhasImage : Nat) (m_qtape : Nat) (m_taped : Int32) (m_qfive : Nat) (m_size : Int32) (m_at : Int32) (m_from : Int32) (m_token : Int32) (m_value : Int32) (m_faultKind : Int32) (m_faultPlace : Int32) (m_qfresh : Nat) (m_startOne : Int32) (m_startOther : Int32) (m_latest : Int32) (m_leftBeats : Int32) (m_signed : Int32) (m_metMany : Int32) (m_qsums : Nat) (m_qpairs : Nat) (m_qgoesWith : Nat) (m_qsaid : Nat) (m_saidMany : Int32) (m_firstWait : Int32) (m_qfirstOrder : Nat) (m_bundleFirst : Int32) (m_qtiredBy : Nat) (m_tiredMany : Int32) (m_qmany : Nat) (m_qwidth : Nat) (m_qnumbers : Nat) (m_qmoving : Nat) (m_cworld : Nat → Int32) (p0 : Int32) (h_m_taped : 0 ≤ (m_taped : Int32).toInt ∧ (m_taped : Int32).toInt ≤ 800) (h_m_size : 0 ≤ (m_size : Int32).toInt ∧ (m_size : Int32).toInt ≤ 800) (h_m_at : 0 ≤ (m_at : Int32).toInt ∧ (m_at : Int32).toInt ≤ 800) (h_m_from : 0 ≤ (m_from : Int32).toInt ∧ (m_from : Int32).toInt ≤ 800) (h_m_saidMany : 0 ≤ (m_saidMany : Int32).toInt ∧ (m_saidMany : Int32).toInt ≤ 60) (h_m_tiredMany : 0 ≤ (m_tiredMany : Int32).toInt ∧ (m_tiredMany : Int32).toInt ≤ 240) (a_m_cworld_0 : WI m_cworld) : Met l yX12_isSide (Cond.code yX12_isSide cX12_isSide 2 (some .boolean) :: TB) (rmd 1 0 0) (PP D cA [(h0, .inr (12, [.int m_thrown, .ref m_qworld, .ref m_qimages, .ref m_qhasImage, .ref m_qtape, .int m_taped, .ref m_qfive, .int m_size, .int m_at, .int m_from, .int m_token, .int m_value, .int m_faultKind, .int m_faultPlace, .ref m_qfresh, .int m_startOne, .int m_startOther, .int m_latest, .int m_leftBeats, .int m_signed, .int m_metMany, .ref m_qsums, .ref m_qpairs, .ref m_qgoesWith, .ref m_qsaid, .int m_saidMany, .int m_firstWait, .ref m_qfirstOrder, .int m_bundleFirst, .ref m_qtiredBy, .int m_tiredMany, .ref m_qmany, .ref m_qwidth, .ref m_qnumbers, .ref m_qmoving])), (m_qworld, .inl (cA 1, 122, .inl m_cworld))] [.ref h0, .int p0]) (vp_Si (fun r => ((0 ≤ (p0 : Int32).toInt) ∧ ((p0 : Int32).toInt ≤ 1) ∧ (1 ≤ (m_cworld 0).toInt) ∧ (1 ≤ (m_cworld 1).toInt) ∧ ((m_cworld 0).toInt ≤ 20) ∧ ((m_cworld 1).toInt ≤ 20) ∧ (r = 1)) ∨ ((r = 0)))) 0 0 (fun _ => False) := by
  refine Met.ofW (cc := cX12_isSide) (maxL := 2) (ret := (some .boolean)) (by decide) rfl ?_
  intro p e s m args below meth c s₁ B hml hv
  obtain ⟨rfl, hP, hKN⟩ := hv
  have hx := B.exec
  have hb := B.bytes
  have hr := B.returns
  have hts : ∀ w ∈ TB, w.before _ s = true := fun w h => atoms_spec B.pre w (List.mem_cons_of_mem _ h)
  have hown : s.vm.findClass RX12 = some m.cls := findClass_of_methodNamed B.named
  have hlocks := B.notSynchronized
  have hl := lv_entry ([.ref h0, .int p0]) (n := 2) (Nat.le_of_ble_eq_true rfl)
  rw [lg_entry_eq]
  generalize (lg_sl ([.ref h0, .int p0]) ++ List.replicate (2 - (lg_sl ([.ref h0, .int p0])).length) Slot.unset).toArray = ls at hl ⊢
  have hl : lv_has ls 2 [(0, .ref h0), (1, .int p0)] := hl
  refine lv_aload_n hx hb dX12_isSide_0 rfl (lv_at hl 0 rfl) ?_
  refine cpVi (rest := []) ⟨hx, hb, hml, hown, hts⟩ hKN (hP.sub (ws' := [(h0, .inr (12, [.int m_thrown, .ref m_qworld, .ref m_qimages, .ref m_qhasImage, .ref m_qtape, .int m_taped, .ref m_qfive, .int m_size, .int m_at, .int m_from, .int m_token, .int m_value, .int m_faultKind, .int m_faultPlace, .ref m_qfresh, .int m_startOne, .int m_startOther, .int m_latest, .int m_leftBeats, .int m_signed, .int m_metMany, .ref m_qsums, .ref m_qpairs, .ref m_qgoesWith, .ref m_qsaid, .int m_saidMany, .int m_firstWait, .ref m_qfirstOrder, .int m_bundleFirst, .ref m_qtiredBy, .int m_tiredMany, .ref m_qmany, .ref m_qwidth, .ref m_qnumbers, .ref m_qmoving])), (m_qworld, .inl (cA 1, 122, .inl m_cworld))]) [0, 1] rfl) (g_X12_isGorge l D cA h0 m_thrown m_qworld m_qimages m_qhasImage m_qtape m_taped m_qfive m_size m_at m_from m_token m_value m_faultKind m_faultPlace m_qfresh m_startOne m_startOther m_latest m_leftBeats m_signed m_metMany m_qsums m_qpairs m_qgoesWith m_qsaid m_saidMany m_firstWait m_qfirstOrder m_bundleFirst m_qtiredBy m_tiredMany m_qmany m_qwidth m_qnumbers m_qmoving m_cworld (by omega) (by omega) (by omega) (by omega) (by omega) (by omega) a_m_cworld_0) (tb_V tw_1664 tw_1666 tw_54 tw_114 tw_1667) hdX12_isGorge ⟨rfl, rfl, Nat.le_of_ble_eq_true rfl, Nat.le_of_ble_eq_true rfl⟩ ⟨Nat.le_of_ble_eq_true rfl, Nat.le_of_ble_eq_true rfl⟩ rfl rfl rfl hl.1 rfl (Nat.le_of_ble_eq_true rfl) dX12_isSide_1 (fun r_1 hr_1 => ?_)
  rcases hr_1 with ⟨k_1_0_0, k_1_0_1, k_1_0_2, k_1_0_3, rfl⟩ | rfl
  · skip
    refine lv_if_eq (tgt := 21) hx hb dX12_isSide_4 (by decide) (fun c_2 => absurd c_2 (by decide)) (fun c_2 => ?_)
    refine lv_iload_n hx hb dX12_isSide_7 rfl (lv_at hl 1 rfl) ?_
    obtain ⟨x_3, ex_3⟩ : ∃ y, p0.toInt64 = y := ⟨_, rfl⟩
    refine lv_i2l (v := x_3) hx hb dX12_isSide_8 ex_3 ?_
    have k_4 := tt_i2l ex_3
    refine lv_lconst (v := 0) hx hb dX12_isSide_9 (by decide) ?_
    refine lv_lconst (v := 1) hx hb dX12_isSide_10 (by decide) ?_
    have z_5 := zj_0
    have z_6 := zj_1
    refine cpSi (rest := []) ⟨hx, hb, hml, hown, hts⟩ hKN (hP.sub (ws' := []) [] rfl) (g_X12_in l D cA x_3 0 1) (tb_S tw_1530 tw_1531 tw_114 tw_1532) hdX12_in ⟨rfl, rfl, Nat.le_of_ble_eq_true rfl, Nat.le_of_ble_eq_true rfl⟩ ⟨Nat.le_of_ble_eq_true rfl, Nat.le_of_ble_eq_true rfl⟩ rfl hl.1 rfl (Nat.le_of_ble_eq_true rfl) dX12_isSide_11 (fun r_7 hr_7 => ?_)
    rcases hr_7 with ⟨k_7_0_0, k_7_0_1, rfl⟩ | ⟨k_7_1_0, rfl⟩
    · skip
      refine lv_if_eq (tgt := 21) hx hb dX12_isSide_14 (by decide) (fun c_8 => absurd c_8 (by decide)) (fun c_8 => ?_)
      refine lv_iconst (v := 1) hx hb dX12_isSide_17 (by decide) ?_
      refine lv_goto (tgt := 22) hx hb dX12_isSide_18 (by decide) ?_
      exact W.zret (v := 1) hx hb hr (by decide) (fun t ht hW => ⟨1, rfl, (Or.inl (⟨(by first | omega | assumption), (by first | omega | assumption), (by first | omega | assumption), (by first | omega | assumption), (by first | omega | assumption), (by first | omega | assumption), rfl⟩)), ht⟩) (fun _ h => by cases h) dX12_isSide_22
    · skip
      refine lv_if_eq (tgt := 21) hx hb dX12_isSide_14 (by decide) (fun c_9 => ?_) (fun c_9 => absurd (by decide) c_9)
      refine lv_iconst (v := 0) hx hb dX12_isSide_21 (by decide) ?_
      exact W.zret (v := 0) hx hb hr (by decide) (fun t ht hW => ⟨0, rfl, (Or.inr (rfl)), ht⟩) (fun _ h => by cases h) dX12_isSide_22
  · skip
    refine lv_if_eq (tgt := 21) hx hb dX12_isSide_4 (by decide) (fun c_10 => ?_) (fun c_10 => absurd (by decide) c_10)
    refine lv_iconst (v := 0) hx hb dX12_isSide_21 (by decide) ?_
    exact W.zret (v := 0) hx hb hr (by decide) (fun t ht hW => ⟨0, rfl, (Or.inr (rfl)), ht⟩) (fun _ h => by cases h) dX12_isSide_22
set_option maxHeartbeats 8000000 in
set_option maxRecDepth 100000 in
theorem g_X12_isHold (l : Launch) (D : va_G) (cA : Nat → ClassId) (h0 : Nat) (m_thrown : Int32) (m_qworld : Nat) (m_qimages : Nat) (m_qhasImage : Nat) (m_qtape : Nat) (m_taped : Int32) (m_qfive : Nat) (m_size : Int32) (m_at : Int32) (m_from : Int32) (m_token : Int32) (m_value : Int32) (m_faultKind : Int32) (m_faultPlace : Int32) (m_qfresh : Nat) (m_startOne : Int32) (m_startOther : Int32) (m_latest : Int32) (m_leftBeats : Int32) (m_signed : Int32) (m_metMany : Int32) (m_qsums : Nat) (m_qpairs : Nat) (m_qgoesWith : Nat) (m_qsaid : Nat) (m_saidMany : Int32) (m_firstWait : Int32) (m_qfirstOrder : Nat) (m_bundleFirst : Int32) (m_qtiredBy : Nat) (m_tiredMany : Int32) (m_qmany : Nat) (m_qwidth : Nat) (m_qnumbers : Nat) (m_qmoving : Nat) (m_cworld : Nat → Int32) (p0 : Int32) (p1 : Int32) (h_m_taped : 0 ≤ (m_taped : Int32).toInt ∧ (m_taped : Int32).toInt ≤ 800) (h_m_size : 0 ≤ (m_size : Int32).toInt ∧ (m_size : Int32).toInt ≤ 800) (h_m_at : 0 ≤ (m_at : Int32).toInt ∧ (m_at : Int32).toInt ≤ 800) (h_m_from : 0 ≤ (m_from : Int32).toInt ∧ (m_from : Int32).toInt ≤ 800) (h_m_saidMany : 0 ≤ (m_saidMany : Int32).toInt ∧ (m_saidMany : Int32).toInt ≤ 60) (h_m_tiredMany : 0 ≤ (m_tiredMany : Int32).toInt ∧ (m_tiredMany : Int32).toInt ≤ 240) (a_m_cworld_0 : WI m_cworld) : Met l yX12_isHold (Cond.code yX12_isHold cX12_isHold 3 (some .boolean) :: TB) (rmd 1 0 0) (PP D cA [(h0, .inr (12, [.int m_thrown, .ref m_qworld, .ref m_qimages, .ref m_qhasImage, .ref m_qtape, .int m_taped, .ref m_qfive, .int m_size, .int m_at, .int m_from, .int m_token, .int m_value, .int m_faultKind, .int m_faultPlace, .ref m_qfresh, .int m_startOne, .int m_startOther, .int m_latest, .int m_leftBeats, .int m_signed, .int m_metMany, .ref m_qsums, .ref m_qpairs, .ref m_qgoesWith, .ref m_qsaid, .int m_saidMany, .int m_firstWait, .ref m_qfirstOrder, .int m_bundleFirst, .ref m_qtiredBy, .int m_tiredMany, .ref m_qmany, .ref m_qwidth, .ref m_qnumbers, .ref m_qmoving])), (m_qworld, .inl (cA 1, 122, .inl m_cworld))] [.ref h0, .int p0, .int p1]) (vp_Si (fun r => (((p1 : Int32).toInt ≤ (p0 : Int32).toInt) ∧ ((p0 : Int32).toInt ≤ 99) ∧ (1 ≤ (m_cworld 0).toInt) ∧ (1 ≤ (m_cworld 1).toInt) ∧ ((m_cworld 0).toInt ≤ 20) ∧ ((m_cworld 1).toInt ≤ 20) ∧ (r = 1)) ∨ ((r = 0)))) 0 0 (fun _ => False) := by
  refine Met.ofW (cc := cX12_isHold) (maxL := 3) (ret := (some .boolean)) (by decide) rfl ?_
  intro p e s m args below meth c s₁ B hml hv
  obtain ⟨rfl, hP, hKN⟩ := hv
  have hx := B.exec
  have hb := B.bytes
  have hr := B.returns
  have hts : ∀ w ∈ TB, w.before _ s = true := fun w h => atoms_spec B.pre w (List.mem_cons_of_mem _ h)
  have hown : s.vm.findClass RX12 = some m.cls := findClass_of_methodNamed B.named
  have hlocks := B.notSynchronized
  have hl := lv_entry ([.ref h0, .int p0, .int p1]) (n := 3) (Nat.le_of_ble_eq_true rfl)
  rw [lg_entry_eq]
  generalize (lg_sl ([.ref h0, .int p0, .int p1]) ++ List.replicate (3 - (lg_sl ([.ref h0, .int p0, .int p1])).length) Slot.unset).toArray = ls at hl ⊢
  have hl : lv_has ls 3 [(0, .ref h0), (1, .int p0), (2, .int p1)] := hl
  refine lv_aload_n hx hb dX12_isHold_0 rfl (lv_at hl 0 rfl) ?_
  refine cpVi (rest := []) ⟨hx, hb, hml, hown, hts⟩ hKN (hP.sub (ws' := [(h0, .inr (12, [.int m_thrown, .ref m_qworld, .ref m_qimages, .ref m_qhasImage, .ref m_qtape, .int m_taped, .ref m_qfive, .int m_size, .int m_at, .int m_from, .int m_token, .int m_value, .int m_faultKind, .int m_faultPlace, .ref m_qfresh, .int m_startOne, .int m_startOther, .int m_latest, .int m_leftBeats, .int m_signed, .int m_metMany, .ref m_qsums, .ref m_qpairs, .ref m_qgoesWith, .ref m_qsaid, .int m_saidMany, .int m_firstWait, .ref m_qfirstOrder, .int m_bundleFirst, .ref m_qtiredBy, .int m_tiredMany, .ref m_qmany, .ref m_qwidth, .ref m_qnumbers, .ref m_qmoving])), (m_qworld, .inl (cA 1, 122, .inl m_cworld))]) [0, 1] rfl) (g_X12_isGorge l D cA h0 m_thrown m_qworld m_qimages m_qhasImage m_qtape m_taped m_qfive m_size m_at m_from m_token m_value m_faultKind m_faultPlace m_qfresh m_startOne m_startOther m_latest m_leftBeats m_signed m_metMany m_qsums m_qpairs m_qgoesWith m_qsaid m_saidMany m_firstWait m_qfirstOrder m_bundleFirst m_qtiredBy m_tiredMany m_qmany m_qwidth m_qnumbers m_qmoving m_cworld (by omega) (by omega) (by omega) (by omega) (by omega) (by omega) a_m_cworld_0) (tb_V tw_1664 tw_1666 tw_54 tw_114 tw_1667) hdX12_isGorge ⟨rfl, rfl, Nat.le_of_ble_eq_true rfl, Nat.le_of_ble_eq_true rfl⟩ ⟨Nat.le_of_ble_eq_true rfl, Nat.le_of_ble_eq_true rfl⟩ rfl rfl rfl hl.1 rfl (Nat.le_of_ble_eq_true rfl) dX12_isHold_1 (fun r_1 hr_1 => ?_)
  rcases hr_1 with ⟨k_1_0_0, k_1_0_1, k_1_0_2, k_1_0_3, rfl⟩ | rfl
  · skip
    refine lv_if_eq (tgt := 24) hx hb dX12_isHold_4 (by decide) (fun c_2 => absurd c_2 (by decide)) (fun c_2 => ?_)
    refine lv_iload_n hx hb dX12_isHold_7 rfl (lv_at hl 1 rfl) ?_
    obtain ⟨x_3, ex_3⟩ : ∃ y, p0.toInt64 = y := ⟨_, rfl⟩
    refine lv_i2l (v := x_3) hx hb dX12_isHold_8 ex_3 ?_
    have k_4 := tt_i2l ex_3
    refine lv_iload_n hx hb dX12_isHold_9 rfl (lv_at hl 2 rfl) ?_
    obtain ⟨x_5, ex_5⟩ : ∃ y, p1.toInt64 = y := ⟨_, rfl⟩
    refine lv_i2l (v := x_5) hx hb dX12_isHold_10 ex_5 ?_
    have k_6 := tt_i2l ex_5
    refine lv_ldc2 (v := 99) hx hb hown (hts _ tw_1850) dX12_isHold_11 ?_
    have z_7 := zj_99
    refine cpSi (rest := []) ⟨hx, hb, hml, hown, hts⟩ hKN (hP.sub (ws' := []) [] rfl) (g_X12_in l D cA x_3 x_5 99) (tb_S tw_1530 tw_1531 tw_114 tw_1532) hdX12_in ⟨rfl, rfl, Nat.le_of_ble_eq_true rfl, Nat.le_of_ble_eq_true rfl⟩ ⟨Nat.le_of_ble_eq_true rfl, Nat.le_of_ble_eq_true rfl⟩ rfl hl.1 rfl (Nat.le_of_ble_eq_true rfl) dX12_isHold_14 (fun r_8 hr_8 => ?_)
    rcases hr_8 with ⟨k_8_0_0, k_8_0_1, rfl⟩ | ⟨k_8_1_0, rfl⟩
    · skip
      refine lv_if_eq (tgt := 24) hx hb dX12_isHold_17 (by decide) (fun c_9 => absurd c_9 (by decide)) (fun c_9 => ?_)
      refine lv_iconst (v := 1) hx hb dX12_isHold_20 (by decide) ?_
      refine lv_goto (tgt := 25) hx hb dX12_isHold_21 (by decide) ?_
      exact W.zret (v := 1) hx hb hr (by decide) (fun t ht hW => ⟨1, rfl, (Or.inl (⟨(by first | omega | assumption), (by first | omega | assumption), (by first | omega | assumption), (by first | omega | assumption), (by first | omega | assumption), (by first | omega | assumption), rfl⟩)), ht⟩) (fun _ h => by cases h) dX12_isHold_25
    · skip
      refine lv_if_eq (tgt := 24) hx hb dX12_isHold_17 (by decide) (fun c_10 => ?_) (fun c_10 => absurd (by decide) c_10)
      refine lv_iconst (v := 0) hx hb dX12_isHold_24 (by decide) ?_
      exact W.zret (v := 0) hx hb hr (by decide) (fun t ht hW => ⟨0, rfl, (Or.inr (rfl)), ht⟩) (fun _ h => by cases h) dX12_isHold_25
  · skip
    refine lv_if_eq (tgt := 24) hx hb dX12_isHold_4 (by decide) (fun c_11 => ?_) (fun c_11 => absurd (by decide) c_11)
    refine lv_iconst (v := 0) hx hb dX12_isHold_24 (by decide) ?_
    exact W.zret (v := 0) hx hb hr (by decide) (fun t ht hW => ⟨0, rfl, (Or.inr (rfl)), ht⟩) (fun _ h => by cases h) dX12_isHold_25
set_option maxHeartbeats 8000000 in
set_option maxRecDepth 100000 in
theorem g_X12_of (l : Launch) (D : va_G) (cA : Nat → ClassId) (h0 : Nat) (m_thrown : Int32) (m_qworld : Nat) (m_qimages : Nat) (m_qhasImage : Nat) (m_qtape : Nat) (m_taped : Int32) (m_qfive : Nat) (m_size : Int32) (m_at : Int32) (m_from : Int32) (m_token : Int32) (m_value : Int32) (m_faultKind : Int32) (m_faultPlace : Int32) (m_qfresh : Nat) (m_startOne : Int32) (m_startOther : Int32) (m_latest : Int32) (m_leftBeats : Int32) (m_signed : Int32) (m_metMany : Int32) (m_qsums : Nat) (m_qpairs : Nat) (m_qgoesWith : Nat) (m_qsaid : Nat) (m_saidMany : Int32) (m_firstWait : Int32) (m_qfirstOrder : Nat) (m_bundleFirst : Int32) (m_qtiredBy : Nat) (m_tiredMany : Int32) (m_qmany : Nat) (m_qwidth : Nat) (m_qnumbers : Nat) (m_qmoving : Nat) (m_cworld : Nat → Int32) (p0 : Int32) (p1 : Int32) (h_m_taped : 0 ≤ (m_taped : Int32).toInt ∧ (m_taped : Int32).toInt ≤ 800) (h_m_size : 0 ≤ (m_size : Int32).toInt ∧ (m_size : Int32).toInt ≤ 800) (h_m_at : 0 ≤ (m_at : Int32).toInt ∧ (m_at : Int32).toInt ≤ 800) (h_m_from : 0 ≤ (m_from : Int32).toInt ∧ (m_from : Int32).toInt ≤ 800) (h_m_saidMany : 0 ≤ (m_saidMany : Int32).toInt ∧ (m_saidMany : Int32).toInt ≤ 60) (h_m_tiredMany : 0 ≤ (m_tiredMany : Int32).toInt ∧ (m_tiredMany : Int32).toInt ≤ 240) (h_p0 : 0 ≤ (p0 : Int32).toInt ∧ (p0 : Int32).toInt ≤ 7) (h_p1 : 0 ≤ (p1 : Int32).toInt ∧ (p1 : Int32).toInt ≤ 2) (a_m_cworld_0 : WI m_cworld) : Met l yX12_of (Cond.code yX12_of cX12_of 3 (some .int) :: TB) (rmd 0 0 0) (PP D cA [(h0, .inr (12, [.int m_thrown, .ref m_qworld, .ref m_qimages, .ref m_qhasImage, .ref m_qtape, .int m_taped, .ref m_qfive, .int m_size, .int m_at, .int m_from, .int m_token, .int m_value, .int m_faultKind, .int m_faultPlace, .ref m_qfresh, .int m_startOne, .int m_startOther, .int m_latest, .int m_leftBeats, .int m_signed, .int m_metMany, .ref m_qsums, .ref m_qpairs, .ref m_qgoesWith, .ref m_qsaid, .int m_saidMany, .int m_firstWait, .ref m_qfirstOrder, .int m_bundleFirst, .ref m_qtiredBy, .int m_tiredMany, .ref m_qmany, .ref m_qwidth, .ref m_qnumbers, .ref m_qmoving])), (m_qworld, .inl (cA 1, 122, .inl m_cworld))] [.ref h0, .int p0, .int p1]) (vp_Si (fun r => (0 ≤ r.toInt ∧ r.toInt ≤ 30) ∧ ((r : Int32) = m_cworld (9 + 3 * (p0 : Int32).toInt.toNat + (p1 : Int32).toInt.toNat)))) 0 0 (fun _ => False) := by
  refine Met.ofW (cc := cX12_of) (maxL := 3) (ret := (some .int)) (by decide) rfl ?_
  intro p e s m args below meth c s₁ B hml hv
  obtain ⟨rfl, hP, hKN⟩ := hv
  have hx := B.exec
  have hb := B.bytes
  have hr := B.returns
  have hts : ∀ w ∈ TB, w.before _ s = true := fun w h => atoms_spec B.pre w (List.mem_cons_of_mem _ h)
  have hown : s.vm.findClass RX12 = some m.cls := findClass_of_methodNamed B.named
  have hlocks := B.notSynchronized
  have hl := lv_entry ([.ref h0, .int p0, .int p1]) (n := 3) (Nat.le_of_ble_eq_true rfl)
  rw [lg_entry_eq]
  generalize (lg_sl ([.ref h0, .int p0, .int p1]) ++ List.replicate (3 - (lg_sl ([.ref h0, .int p0, .int p1])).length) Slot.unset).toArray = ls at hl ⊢
  have hl : lv_has ls 3 [(0, .ref h0), (1, .int p0), (2, .int p1)] := hl
  refine lv_aload_n hx hb dX12_of_0 rfl (lv_at hl 0 rfl) ?_
  refine va_get (D := D) (ci := 12) (v := .ref m_qworld) (C := RX12) (T := TX12) (N := 35) hx hb hts inX12 hown hKN.1 hP 0 rfl rfl 1 (by decide) (hts _ tw_1420) (fun _ h9 => h9) rfl dX12_of_1 ?_
  refine lv_bipush (v := 9) hx hb dX12_of_4 (by decide) ?_
  refine lv_iconst (v := 3) hx hb dX12_of_6 (by decide) ?_
  refine lv_iload_n hx hb dX12_of_7 rfl (lv_at hl 1 rfl) ?_
  refine lv_imul hx hb dX12_of_8 ?_
  refine lv_topi (fun x_1 ex_1 => ?_)
  have k_2 := ar_mul zi_3 rfl ex_1 (by omega) (by omega)
  refine lv_iadd hx hb dX12_of_9 ?_
  refine lv_topi (fun x_3 ex_3 => ?_)
  have k_4 := ar_add zi_9 rfl ex_3 (by omega) (by omega)
  refine lv_iload_n hx hb dX12_of_10 rfl (lv_at hl 2 rfl) ?_
  refine lv_iadd hx hb dX12_of_11 ?_
  refine lv_topi (fun x_5 ex_5 => ?_)
  have k_6 := ar_add rfl rfl ex_5 (by omega) (by omega)
  refine va_iald hx hb hKN.1 hP 1 1 rfl rfl (vp_in_iff.mpr ⟨by omega, by omega⟩) dX12_of_12 ?_
  refine lv_topi (fun x_7 ex_7 => ?_)
  have k_8c : x_5.toNatClampNeg = x_5.toInt.toNat := rfl
  have k_8 := a_m_cworld_0.1.1.2.2.2.2.2.2.2.2.1 (x_5.toNatClampNeg) (by omega) (by omega)
  rw [← ex_7] at k_8
  exact W.iret (v := x_7) hx hb hr (fun t ht hW => ⟨x_7, rfl, (⟨(show 0 ≤ x_7.toInt ∧ x_7.toInt ≤ 30 from by omega), (show (x_7 : Int32) = m_cworld (9 + 3 * (p0 : Int32).toInt.toNat + (p1 : Int32).toInt.toNat) from by rw [ex_7]; congr 1; have kc : x_5.toNatClampNeg = x_5.toInt.toNat := rfl; omega)⟩), ht⟩) (fun _ h => by cases h) dX12_of_13
set_option maxHeartbeats 8000000 in
set_option maxRecDepth 100000 in
theorem g_X12_ofClause (l : Launch) (D : va_G) (cA : Nat → ClassId) (h0 : Nat) (m_thrown : Int32) (m_qworld : Nat) (m_qimages : Nat) (m_qhasImage : Nat) (m_qtape : Nat) (m_taped : Int32) (m_qfive : Nat) (m_size : Int32) (m_at : Int32) (m_from : Int32) (m_token : Int32) (m_value : Int32) (m_faultKind : Int32) (m_faultPlace : Int32) (m_qfresh : Nat) (m_startOne : Int32) (m_startOther : Int32) (m_latest : Int32) (m_leftBeats : Int32) (m_signed : Int32) (m_metMany : Int32) (m_qsums : Nat) (m_qpairs : Nat) (m_qgoesWith : Nat) (m_qsaid : Nat) (m_saidMany : Int32) (m_firstWait : Int32) (m_qfirstOrder : Nat) (m_bundleFirst : Int32) (m_qtiredBy : Nat) (m_tiredMany : Int32) (m_qmany : Nat) (m_qwidth : Nat) (m_qnumbers : Nat) (m_qmoving : Nat) (m_cworld : Nat → Int32) (p0 : Int32) (p1 : Int32) (h_m_taped : 0 ≤ (m_taped : Int32).toInt ∧ (m_taped : Int32).toInt ≤ 800) (h_m_size : 0 ≤ (m_size : Int32).toInt ∧ (m_size : Int32).toInt ≤ 800) (h_m_at : 0 ≤ (m_at : Int32).toInt ∧ (m_at : Int32).toInt ≤ 800) (h_m_from : 0 ≤ (m_from : Int32).toInt ∧ (m_from : Int32).toInt ≤ 800) (h_m_saidMany : 0 ≤ (m_saidMany : Int32).toInt ∧ (m_saidMany : Int32).toInt ≤ 60) (h_m_tiredMany : 0 ≤ (m_tiredMany : Int32).toInt ∧ (m_tiredMany : Int32).toInt ≤ 240) (h_p0 : 0 ≤ (p0 : Int32).toInt ∧ (p0 : Int32).toInt ≤ 6) (h_p1 : 0 ≤ (p1 : Int32).toInt ∧ (p1 : Int32).toInt ≤ 2) (a_m_cworld_0 : WI m_cworld) : Met l yX12_ofClause (Cond.code yX12_ofClause cX12_ofClause 3 (some .int) :: TB) (rmd 0 0 0) (PP D cA [(h0, .inr (12, [.int m_thrown, .ref m_qworld, .ref m_qimages, .ref m_qhasImage, .ref m_qtape, .int m_taped, .ref m_qfive, .int m_size, .int m_at, .int m_from, .int m_token, .int m_value, .int m_faultKind, .int m_faultPlace, .ref m_qfresh, .int m_startOne, .int m_startOther, .int m_latest, .int m_leftBeats, .int m_signed, .int m_metMany, .ref m_qsums, .ref m_qpairs, .ref m_qgoesWith, .ref m_qsaid, .int m_saidMany, .int m_firstWait, .ref m_qfirstOrder, .int m_bundleFirst, .ref m_qtiredBy, .int m_tiredMany, .ref m_qmany, .ref m_qwidth, .ref m_qnumbers, .ref m_qmoving])), (m_qworld, .inl (cA 1, 122, .inl m_cworld))] [.ref h0, .int p0, .int p1]) (vp_Si (fun r => -99 ≤ r.toInt ∧ r.toInt ≤ 99)) 0 0 (fun _ => False) := by
  refine Met.ofW (cc := cX12_ofClause) (maxL := 3) (ret := (some .int)) (by decide) rfl ?_
  intro p e s m args below meth c s₁ B hml hv
  obtain ⟨rfl, hP, hKN⟩ := hv
  have hx := B.exec
  have hb := B.bytes
  have hr := B.returns
  have hts : ∀ w ∈ TB, w.before _ s = true := fun w h => atoms_spec B.pre w (List.mem_cons_of_mem _ h)
  have hown : s.vm.findClass RX12 = some m.cls := findClass_of_methodNamed B.named
  have hlocks := B.notSynchronized
  have hl := lv_entry ([.ref h0, .int p0, .int p1]) (n := 3) (Nat.le_of_ble_eq_true rfl)
  rw [lg_entry_eq]
  generalize (lg_sl ([.ref h0, .int p0, .int p1]) ++ List.replicate (3 - (lg_sl ([.ref h0, .int p0, .int p1])).length) Slot.unset).toArray = ls at hl ⊢
  have hl : lv_has ls 3 [(0, .ref h0), (1, .int p0), (2, .int p1)] := hl
  refine lv_aload_n hx hb dX12_ofClause_0 rfl (lv_at hl 0 rfl) ?_
  refine va_get (D := D) (ci := 12) (v := .ref m_qworld) (C := RX12) (T := TX12) (N := 35) hx hb hts inX12 hown hKN.1 hP 0 rfl rfl 1 (by decide) (hts _ tw_1420) (fun _ h9 => h9) rfl dX12_ofClause_1 ?_
  refine lv_bipush (v := 33) hx hb dX12_ofClause_4 (by decide) ?_
  refine lv_iconst (v := 3) hx hb dX12_ofClause_6 (by decide) ?_
  refine lv_iload_n hx hb dX12_ofClause_7 rfl (lv_at hl 1 rfl) ?_
  refine lv_imul hx hb dX12_ofClause_8 ?_
  refine lv_topi (fun x_1 ex_1 => ?_)
  have k_2 := ar_mul zi_3 rfl ex_1 (by omega) (by omega)
  refine lv_iadd hx hb dX12_ofClause_9 ?_
  refine lv_topi (fun x_3 ex_3 => ?_)
  have k_4 := ar_add zi_33 rfl ex_3 (by omega) (by omega)
  refine lv_iload_n hx hb dX12_ofClause_10 rfl (lv_at hl 2 rfl) ?_
  refine lv_iadd hx hb dX12_ofClause_11 ?_
  refine lv_topi (fun x_5 ex_5 => ?_)
  have k_6 := ar_add rfl rfl ex_5 (by omega) (by omega)
  refine va_iald hx hb hKN.1 hP 1 1 rfl rfl (vp_in_iff.mpr ⟨by omega, by omega⟩) dX12_ofClause_12 ?_
  refine lv_topi (fun x_7 ex_7 => ?_)
  have k_8c : x_5.toNatClampNeg = x_5.toInt.toNat := rfl
  have k_8 := a_m_cworld_0.1.1.2.2.2.2.2.2.2.2.2.1 (x_5.toNatClampNeg) (by omega) (by omega)
  rw [← ex_7] at k_8
  exact W.iret (v := x_7) hx hb hr (fun t ht hW => ⟨x_7, rfl, (show -99 ≤ x_7.toInt ∧ x_7.toInt ≤ 99 from by omega), ht⟩) (fun _ h => by cases h) dX12_ofClause_13
set_option maxHeartbeats 8000000 in
set_option maxRecDepth 100000 in
theorem g_X12_isSlot (l : Launch) (D : va_G) (cA : Nat → ClassId) (p0 : Int32) : Met l yX12_isSlot (Cond.code yX12_isSlot cX12_isSlot 1 (some .boolean) :: TB) (rmd 1 0 0) (PP D cA [] [.int p0]) (vp_Si (fun r => ((0 ≤ (p0 : Int32).toInt) ∧ ((p0 : Int32).toInt ≤ 3) ∧ (r = 1)) ∨ (((p0 : Int32).toInt < 0 ∨ 3 < (p0 : Int32).toInt) ∧ (r = 0)))) 0 0 (fun _ => False) := by
  refine Met.ofW (cc := cX12_isSlot) (maxL := 1) (ret := (some .boolean)) (by decide) rfl ?_
  intro p e s m args below meth c s₁ B hml hv
  obtain ⟨rfl, hP, hKN⟩ := hv
  have hx := B.exec
  have hb := B.bytes
  have hr := B.returns
  have hts : ∀ w ∈ TB, w.before _ s = true := fun w h => atoms_spec B.pre w (List.mem_cons_of_mem _ h)
  have hown : s.vm.findClass RX12 = some m.cls := findClass_of_methodNamed B.named
  have hlocks := B.notSynchronized
  have hl := lv_entry ([.int p0]) (n := 1) (Nat.le_of_ble_eq_true rfl)
  rw [lg_entry_eq]
  generalize (lg_sl ([.int p0]) ++ List.replicate (1 - (lg_sl ([.int p0])).length) Slot.unset).toArray = ls at hl ⊢
  have hl : lv_has ls 1 [(0, .int p0)] := hl
  refine lv_iload_n hx hb dX12_isSlot_0 rfl (lv_at hl 0 rfl) ?_
  obtain ⟨x_1, ex_1⟩ : ∃ y, p0.toInt64 = y := ⟨_, rfl⟩
  refine lv_i2l (v := x_1) hx hb dX12_isSlot_1 ex_1 ?_
  have k_2 := tt_i2l ex_1
  refine lv_lconst (v := 0) hx hb dX12_isSlot_2 (by decide) ?_
  refine lv_ldc2 (v := 3) hx hb hown (hts _ tw_1849) dX12_isSlot_3 ?_
  have z_3 := zj_0
  have z_4 := zj_3
  refine cpSi (rest := []) ⟨hx, hb, hml, hown, hts⟩ hKN (hP.sub (ws' := []) [] rfl) (g_X12_in l D cA x_1 0 3) (tb_S tw_1530 tw_1531 tw_114 tw_1532) hdX12_in ⟨rfl, rfl, Nat.le_of_ble_eq_true rfl, Nat.le_of_ble_eq_true rfl⟩ ⟨Nat.le_of_ble_eq_true rfl, Nat.le_of_ble_eq_true rfl⟩ rfl hl.1 rfl (Nat.le_of_ble_eq_true rfl) dX12_isSlot_6 (fun r_5 hr_5 => ?_)
  rcases hr_5 with ⟨k_5_0_0, k_5_0_1, rfl⟩ | ⟨k_5_1_0, rfl⟩
  · skip
    exact W.zret (v := 1) hx hb hr (by decide) (fun t ht hW => ⟨1, rfl, (Or.inl (⟨(by first | omega | assumption), (by first | omega | assumption), rfl⟩)), ht⟩) (fun _ h => by cases h) dX12_isSlot_9
  · skip
    exact W.zret (v := 0) hx hb hr (by decide) (fun t ht hW => ⟨0, rfl, (Or.inr (⟨(by first | omega | assumption), rfl⟩)), ht⟩) (fun _ h => by cases h) dX12_isSlot_9
set_option maxHeartbeats 8000000 in
set_option maxRecDepth 100000 in
theorem g_X12_isSeed (l : Launch) (D : va_G) (cA : Nat → ClassId) (p0 : Int32) : Met l yX12_isSeed (Cond.code yX12_isSeed cX12_isSeed 1 (some .boolean) :: TB) (rmd 1 0 0) (PP D cA [] [.int p0]) (vp_Si (fun r => 0 ≤ r.toInt ∧ r.toInt ≤ 1)) 0 0 (fun _ => False) := by
  refine Met.ofW (cc := cX12_isSeed) (maxL := 1) (ret := (some .boolean)) (by decide) rfl ?_
  intro p e s m args below meth c s₁ B hml hv
  obtain ⟨rfl, hP, hKN⟩ := hv
  have hx := B.exec
  have hb := B.bytes
  have hr := B.returns
  have hts : ∀ w ∈ TB, w.before _ s = true := fun w h => atoms_spec B.pre w (List.mem_cons_of_mem _ h)
  have hown : s.vm.findClass RX12 = some m.cls := findClass_of_methodNamed B.named
  have hlocks := B.notSynchronized
  have hl := lv_entry ([.int p0]) (n := 1) (Nat.le_of_ble_eq_true rfl)
  rw [lg_entry_eq]
  generalize (lg_sl ([.int p0]) ++ List.replicate (1 - (lg_sl ([.int p0])).length) Slot.unset).toArray = ls at hl ⊢
  have hl : lv_has ls 1 [(0, .int p0)] := hl
  refine lv_iload_n hx hb dX12_isSeed_0 rfl (lv_at hl 0 rfl) ?_
  obtain ⟨x_1, ex_1⟩ : ∃ y, p0.toInt64 = y := ⟨_, rfl⟩
  refine lv_i2l (v := x_1) hx hb dX12_isSeed_1 ex_1 ?_
  have k_2 := tt_i2l ex_1
  refine lv_lconst (v := 0) hx hb dX12_isSeed_2 (by decide) ?_
  refine lv_ldc2 (v := 2000000000) hx hb hown (hts _ tw_1716) dX12_isSeed_3 ?_
  have z_3 := zj_0
  have z_4 := zj_2000000000
  refine cpSi (rest := []) ⟨hx, hb, hml, hown, hts⟩ hKN (hP.sub (ws' := []) [] rfl) (g_X12_in l D cA x_1 0 2000000000) (tb_S tw_1530 tw_1531 tw_114 tw_1532) hdX12_in ⟨rfl, rfl, Nat.le_of_ble_eq_true rfl, Nat.le_of_ble_eq_true rfl⟩ ⟨Nat.le_of_ble_eq_true rfl, Nat.le_of_ble_eq_true rfl⟩ rfl hl.1 rfl (Nat.le_of_ble_eq_true rfl) dX12_isSeed_6 (fun r_5 hr_5 => ?_)
  rcases hr_5 with ⟨k_5_0_0, k_5_0_1, rfl⟩ | ⟨k_5_1_0, rfl⟩
  · skip
    exact W.zret (v := 1) hx hb hr (by decide) (fun t ht hW => ⟨1, rfl, (show 0 ≤ (1 : Int32).toInt ∧ (1 : Int32).toInt ≤ 1 from by decide), ht⟩) (fun _ h => by cases h) dX12_isSeed_9
  · skip
    exact W.zret (v := 0) hx hb hr (by decide) (fun t ht hW => ⟨0, rfl, (show 0 ≤ (0 : Int32).toInt ∧ (0 : Int32).toInt ≤ 1 from by decide), ht⟩) (fun _ h => by cases h) dX12_isSeed_9
set_option maxHeartbeats 8000000 in
set_option maxRecDepth 100000 in
theorem g_X12_power (l : Launch) (D : va_G) (cA : Nat → ClassId) (p0 : Int64) (p1 : Int32) : Met l yX12_power (Cond.code yX12_power cX12_power 6 (some .long) :: TB) (rmd 0 0 0) (PP D cA [] [.long p0, .int p1]) (vp_Sl (fun r => True)) 0 0 (fun _ => False) := by
  refine Met.ofW (cc := cX12_power) (maxL := 6) (ret := (some .long)) (by decide) rfl ?_
  intro p e s m args below meth c s₁ B hml hv
  obtain ⟨rfl, hP, hKN⟩ := hv
  have hx := B.exec
  have hb := B.bytes
  have hr := B.returns
  have hts : ∀ w ∈ TB, w.before _ s = true := fun w h => atoms_spec B.pre w (List.mem_cons_of_mem _ h)
  have hown : s.vm.findClass RX12 = some m.cls := findClass_of_methodNamed B.named
  have hlocks := B.notSynchronized
  have hl := lv_entry ([.long p0, .int p1]) (n := 6) (Nat.le_of_ble_eq_true rfl)
  rw [lg_entry_eq]
  generalize (lg_sl ([.long p0, .int p1]) ++ List.replicate (6 - (lg_sl ([.long p0, .int p1])).length) Slot.unset).toArray = ls at hl ⊢
  have hl : lv_has ls 6 [(0, .long p0), (2, .int p1)] := hl
  refine lv_lconst (v := 1) hx hb dX12_power_0 (by decide) ?_
  refine lv_lstore_n (lv' := [(3, .long 1), (0, .long p0), (2, .int p1)]) hx hb dX12_power_1 rfl hl (by decide) rfl (fun ls hl => ?_)
  refine lv_iconst (v := 0) hx hb dX12_power_2 (by decide) ?_
  refine lv_istore (lv' := [(5, .int 0), (3, .long 1), (0, .long p0), (2, .int p1)]) hx hb dX12_power_3 hl (by decide) rfl (fun ls hl => ?_)
  refine loopW (σ := Int32 × Int64) (fun _ => []) (fun ⟨L5_37, L3_37⟩ H locs ls => (0 ≤ L5_37.toInt) ∧ H = s.heap ∧ locs = [] ∧ lv_has ls 6 [(5, .int L5_37), (3, .long L3_37), (0, .long p0), (2, .int p1)]) (fun ⟨L5_37, L3_37⟩ => (2147483647 - L5_37.toInt).toNat) ?_ ((0, 1) : Int32 × Int64) ⟨(by decide), rfl, rfl, hl⟩
  intro x_37 H locs ls hI_37 ih_37
  obtain ⟨L5_37, L3_37⟩ := x_37
  obtain ⟨k0_37, rfl, rfl, hl⟩ := hI_37
  have hl : lv_has ls 6 [(5, .int L5_37), (3, .long L3_37), (0, .long p0), (2, .int p1)] := hl
  refine lv_iload hx hb dX12_power_5 (lv_at hl 0 rfl) ?_
  refine lv_iload_n hx hb dX12_power_7 rfl (lv_at hl 3 rfl) ?_
  refine lv_icmp_ge (tgt := 21) hx hb dX12_power_8 (by decide) (fun c_38 => ?_) (fun c_38 => ?_)
  · skip
    have b_40 := i32_bd p1
    have k_39 := kk_le rfl rfl c_38
    refine lv_lload_n hx hb dX12_power_21 rfl (lv_at hl 1 rfl) ?_
    exact W.lret (v := L3_37) hx hb hr (fun t ht hW => ⟨L3_37, rfl, trivial, ht⟩) (fun _ h => by cases h) dX12_power_22
  · skip
    have b_42 := i32_bd p1
    have k_41 := kk_nle rfl rfl c_38
    refine lv_lload_n hx hb dX12_power_11 rfl (lv_at hl 1 rfl) ?_
    refine lv_lload_n hx hb dX12_power_12 rfl (lv_at hl 2 rfl) ?_
    refine lv_lmul hx hb dX12_power_13 ?_
    refine lv_topl (fun x_43 ex_43 => ?_)
    refine lv_lstore_n (lv' := [(3, .long x_43), (5, .int L5_37), (0, .long p0), (2, .int p1)]) hx hb dX12_power_14 rfl hl (by decide) rfl (fun ls hl => ?_)
    obtain ⟨x_44, ex_44⟩ : ∃ y : Int32, L5_37 + Int32.ofInt 1 = y := ⟨_, rfl⟩
    have k_45 := ar_add (b := 1) rfl zi_1 ex_44.symm (by omega) (by omega)
    refine lv_iinc (v := x_44) (lv' := [(5, .int x_44), (3, .long x_43), (0, .long p0), (2, .int p1)]) hx hb dX12_power_15 hl (k := 1) rfl ex_44 (by decide) rfl (fun ls hl => ?_)
    refine lv_goto (tgt := 5) hx hb dX12_power_18 (by decide) ?_
    exact ih_37 (x_44, x_43) _ _ _ ⟨(show 0 ≤ x_44.toInt from by omega), rfl, rfl, lv_sub hl [0, 1, 2, 3] rfl⟩ (by show (2147483647 - x_44.toInt).toNat < (2147483647 - L5_37.toInt).toNat; omega)
set_option maxHeartbeats 8000000 in
set_option maxRecDepth 100000 in
theorem g_X12_gripLess (l : Launch) (D : va_G) (cA : Nat → ClassId) (h0 : Nat) (m_thrown : Int32) (m_qworld : Nat) (m_qimages : Nat) (m_qhasImage : Nat) (m_qtape : Nat) (m_taped : Int32) (m_qfive : Nat) (m_size : Int32) (m_at : Int32) (m_from : Int32) (m_token : Int32) (m_value : Int32) (m_faultKind : Int32) (m_faultPlace : Int32) (m_qfresh : Nat) (m_startOne : Int32) (m_startOther : Int32) (m_latest : Int32) (m_leftBeats : Int32) (m_signed : Int32) (m_metMany : Int32) (m_qsums : Nat) (m_qpairs : Nat) (m_qgoesWith : Nat) (m_qsaid : Nat) (m_saidMany : Int32) (m_firstWait : Int32) (m_qfirstOrder : Nat) (m_bundleFirst : Int32) (m_qtiredBy : Nat) (m_tiredMany : Int32) (m_qmany : Nat) (m_qwidth : Nat) (m_qnumbers : Nat) (m_qmoving : Nat) (m_cworld : Nat → Int32) (p0 : Int32) (p1 : Int32) (p2 : Int32) (h_m_taped : 0 ≤ (m_taped : Int32).toInt ∧ (m_taped : Int32).toInt ≤ 800) (h_m_size : 0 ≤ (m_size : Int32).toInt ∧ (m_size : Int32).toInt ≤ 800) (h_m_at : 0 ≤ (m_at : Int32).toInt ∧ (m_at : Int32).toInt ≤ 800) (h_m_from : 0 ≤ (m_from : Int32).toInt ∧ (m_from : Int32).toInt ≤ 800) (h_m_saidMany : 0 ≤ (m_saidMany : Int32).toInt ∧ (m_saidMany : Int32).toInt ≤ 60) (h_m_tiredMany : 0 ≤ (m_tiredMany : Int32).toInt ∧ (m_tiredMany : Int32).toInt ≤ 240) (h_p0 : 0 ≤ (p0 : Int32).toInt ∧ (p0 : Int32).toInt ≤ 7) (a_m_cworld_0 : WI m_cworld) : Met l yX12_gripLess (Cond.code yX12_gripLess cX12_gripLess 4 (some .int) :: TB) (rmd 1 0 0) (PP D cA [(h0, .inr (12, [.int m_thrown, .ref m_qworld, .ref m_qimages, .ref m_qhasImage, .ref m_qtape, .int m_taped, .ref m_qfive, .int m_size, .int m_at, .int m_from, .int m_token, .int m_value, .int m_faultKind, .int m_faultPlace, .ref m_qfresh, .int m_startOne, .int m_startOther, .int m_latest, .int m_leftBeats, .int m_signed, .int m_metMany, .ref m_qsums, .ref m_qpairs, .ref m_qgoesWith, .ref m_qsaid, .int m_saidMany, .int m_firstWait, .ref m_qfirstOrder, .int m_bundleFirst, .ref m_qtiredBy, .int m_tiredMany, .ref m_qmany, .ref m_qwidth, .ref m_qnumbers, .ref m_qmoving])), (m_qworld, .inl (cA 1, 122, .inl m_cworld))] [.ref h0, .int p0, .int p1, .int p2]) (vp_Si (fun r => True)) 0 0 (fun _ => False) := by
  refine Met.ofW (cc := cX12_gripLess) (maxL := 4) (ret := (some .int)) (by decide) rfl ?_
  intro p e s m args below meth c s₁ B hml hv
  obtain ⟨rfl, hP, hKN⟩ := hv
  have hx := B.exec
  have hb := B.bytes
  have hr := B.returns
  have hts : ∀ w ∈ TB, w.before _ s = true := fun w h => atoms_spec B.pre w (List.mem_cons_of_mem _ h)
  have hown : s.vm.findClass RX12 = some m.cls := findClass_of_methodNamed B.named
  have hlocks := B.notSynchronized
  have hl := lv_entry ([.ref h0, .int p0, .int p1, .int p2]) (n := 4) (Nat.le_of_ble_eq_true rfl)
  rw [lg_entry_eq]
  generalize (lg_sl ([.ref h0, .int p0, .int p1, .int p2]) ++ List.replicate (4 - (lg_sl ([.ref h0, .int p0, .int p1, .int p2])).length) Slot.unset).toArray = ls at hl ⊢
  have hl : lv_has ls 4 [(0, .ref h0), (1, .int p0), (2, .int p1), (3, .int p2)] := hl
  refine lv_aload_n hx hb dX12_gripLess_0 rfl (lv_at hl 0 rfl) ?_
  refine lv_iload_n hx hb dX12_gripLess_1 rfl (lv_at hl 1 rfl) ?_
  refine lv_iconst (v := 1) hx hb dX12_gripLess_2 (by decide) ?_
  have z_1 := zi_1
  refine cpVi (rest := []) ⟨hx, hb, hml, hown, hts⟩ hKN (hP.sub (ws' := [(h0, .inr (12, [.int m_thrown, .ref m_qworld, .ref m_qimages, .ref m_qhasImage, .ref m_qtape, .int m_taped, .ref m_qfive, .int m_size, .int m_at, .int m_from, .int m_token, .int m_value, .int m_faultKind, .int m_faultPlace, .ref m_qfresh, .int m_startOne, .int m_startOther, .int m_latest, .int m_leftBeats, .int m_signed, .int m_metMany, .ref m_qsums, .ref m_qpairs, .ref m_qgoesWith, .ref m_qsaid, .int m_saidMany, .int m_firstWait, .ref m_qfirstOrder, .int m_bundleFirst, .ref m_qtiredBy, .int m_tiredMany, .ref m_qmany, .ref m_qwidth, .ref m_qnumbers, .ref m_qmoving])), (m_qworld, .inl (cA 1, 122, .inl m_cworld))]) [0, 1] rfl) (g_X12_of l D cA h0 m_thrown m_qworld m_qimages m_qhasImage m_qtape m_taped m_qfive m_size m_at m_from m_token m_value m_faultKind m_faultPlace m_qfresh m_startOne m_startOther m_latest m_leftBeats m_signed m_metMany m_qsums m_qpairs m_qgoesWith m_qsaid m_saidMany m_firstWait m_qfirstOrder m_bundleFirst m_qtiredBy m_tiredMany m_qmany m_qwidth m_qnumbers m_qmoving m_cworld p0 1 (by omega) (by omega) (by omega) (by omega) (by omega) (by omega) (by omega) (by decide) a_m_cworld_0) (tb_V tw_1640 tw_1642 tw_50 tw_114 tw_1643) hdX12_of ⟨rfl, rfl, Nat.le_of_ble_eq_true rfl, Nat.le_of_ble_eq_true rfl⟩ ⟨Nat.le_of_ble_eq_true rfl, Nat.le_of_ble_eq_true rfl⟩ rfl rfl rfl hl.1 rfl (Nat.le_of_ble_eq_true rfl) dX12_gripLess_3 (fun r_2 hr_2 => ?_)
  obtain ⟨k_2_0_0, k_2_0_1⟩ := hr_2
  refine lv_iload_n hx hb dX12_gripLess_6 rfl (lv_at hl 1 rfl) ?_
  refine lv_iload_n hx hb dX12_gripLess_7 rfl (lv_at hl 2 rfl) ?_
  refine lv_icmp_ne (tgt := 15) hx hb dX12_gripLess_8 (by decide) (fun c_3 => ?_) (fun c_3 => ?_)
  · skip
    have b_5 := i32_bd p1
    have k_4 := kk_ne rfl rfl c_3
    refine lv_iconst (v := 0) hx hb dX12_gripLess_15 (by decide) ?_
    refine lv_isub hx hb dX12_gripLess_16 ?_
    refine lv_topi (fun x_6 ex_6 => ?_)
    have k_7 := ar_sub rfl zi_0 ex_6 (by omega) (by omega)
    exact W.iret (v := x_6) hx hb hr (fun t ht hW => ⟨x_6, rfl, trivial, ht⟩) (fun _ h => by cases h) dX12_gripLess_17
  · skip
    have b_9 := i32_bd p1
    have k_8 := kk_eq rfl rfl c_3
    refine lv_iload_n hx hb dX12_gripLess_11 rfl (lv_at hl 3 rfl) ?_
    refine lv_goto (tgt := 16) hx hb dX12_gripLess_12 (by decide) ?_
    refine lv_isub hx hb dX12_gripLess_16 ?_
    refine lv_topi (fun x_10 ex_10 => ?_)
    exact W.iret (v := x_10) hx hb hr (fun t ht hW => ⟨x_10, rfl, trivial, ht⟩) (fun _ h => by cases h) dX12_gripLess_17
set_option maxHeartbeats 8000000 in
set_option maxRecDepth 100000 in
theorem g_X12_holdBy (l : Launch) (D : va_G) (cA : Nat → ClassId) (h0 : Nat) (m_thrown : Int32) (m_qworld : Nat) (m_qimages : Nat) (m_qhasImage : Nat) (m_qtape : Nat) (m_taped : Int32) (m_qfive : Nat) (m_size : Int32) (m_at : Int32) (m_from : Int32) (m_token : Int32) (m_value : Int32) (m_faultKind : Int32) (m_faultPlace : Int32) (m_qfresh : Nat) (m_startOne : Int32) (m_startOther : Int32) (m_latest : Int32) (m_leftBeats : Int32) (m_signed : Int32) (m_metMany : Int32) (m_qsums : Nat) (m_qpairs : Nat) (m_qgoesWith : Nat) (m_qsaid : Nat) (m_saidMany : Int32) (m_firstWait : Int32) (m_qfirstOrder : Nat) (m_bundleFirst : Int32) (m_qtiredBy : Nat) (m_tiredMany : Int32) (m_qmany : Nat) (m_qwidth : Nat) (m_qnumbers : Nat) (m_qmoving : Nat) (m_cworld : Nat → Int32) (p0 : Int32) (p1 : Int32) (p2 : Int32) (p3 : Int32) (h_m_taped : 0 ≤ (m_taped : Int32).toInt ∧ (m_taped : Int32).toInt ≤ 800) (h_m_size : 0 ≤ (m_size : Int32).toInt ∧ (m_size : Int32).toInt ≤ 800) (h_m_at : 0 ≤ (m_at : Int32).toInt ∧ (m_at : Int32).toInt ≤ 800) (h_m_from : 0 ≤ (m_from : Int32).toInt ∧ (m_from : Int32).toInt ≤ 800) (h_m_saidMany : 0 ≤ (m_saidMany : Int32).toInt ∧ (m_saidMany : Int32).toInt ≤ 60) (h_m_tiredMany : 0 ≤ (m_tiredMany : Int32).toInt ∧ (m_tiredMany : Int32).toInt ≤ 240) (h_p0 : 0 ≤ (p0 : Int32).toInt ∧ (p0 : Int32).toInt ≤ 7) (h_p1 : 0 ≤ (p1 : Int32).toInt ∧ (p1 : Int32).toInt ≤ 7) (a_m_cworld_0 : WI m_cworld) : Met l yX12_holdBy (Cond.code yX12_holdBy cX12_holdBy 5 (some .int) :: TB) (rmd 2 0 0) (PP D cA [(h0, .inr (12, [.int m_thrown, .ref m_qworld, .ref m_qimages, .ref m_qhasImage, .ref m_qtape, .int m_taped, .ref m_qfive, .int m_size, .int m_at, .int m_from, .int m_token, .int m_value, .int m_faultKind, .int m_faultPlace, .ref m_qfresh, .int m_startOne, .int m_startOther, .int m_latest, .int m_leftBeats, .int m_signed, .int m_metMany, .ref m_qsums, .ref m_qpairs, .ref m_qgoesWith, .ref m_qsaid, .int m_saidMany, .int m_firstWait, .ref m_qfirstOrder, .int m_bundleFirst, .ref m_qtiredBy, .int m_tiredMany, .ref m_qmany, .ref m_qwidth, .ref m_qnumbers, .ref m_qmoving])), (m_qworld, .inl (cA 1, 122, .inl m_cworld))] [.ref h0, .int p0, .int p1, .int p2, .int p3]) (vp_Si (fun r => True)) 0 0 (fun _ => False) := by
  refine Met.ofW (cc := cX12_holdBy) (maxL := 5) (ret := (some .int)) (by decide) rfl ?_
  intro p e s m args below meth c s₁ B hml hv
  obtain ⟨rfl, hP, hKN⟩ := hv
  have hx := B.exec
  have hb := B.bytes
  have hr := B.returns
  have hts : ∀ w ∈ TB, w.before _ s = true := fun w h => atoms_spec B.pre w (List.mem_cons_of_mem _ h)
  have hown : s.vm.findClass RX12 = some m.cls := findClass_of_methodNamed B.named
  have hlocks := B.notSynchronized
  have hl := lv_entry ([.ref h0, .int p0, .int p1, .int p2, .int p3]) (n := 5) (Nat.le_of_ble_eq_true rfl)
  rw [lg_entry_eq]
  generalize (lg_sl ([.ref h0, .int p0, .int p1, .int p2, .int p3]) ++ List.replicate (5 - (lg_sl ([.ref h0, .int p0, .int p1, .int p2, .int p3])).length) Slot.unset).toArray = ls at hl ⊢
  have hl : lv_has ls 5 [(0, .ref h0), (1, .int p0), (2, .int p1), (3, .int p2), (4, .int p3)] := hl
  refine lv_aload_n hx hb dX12_holdBy_0 rfl (lv_at hl 0 rfl) ?_
  refine lv_iload_n hx hb dX12_holdBy_1 rfl (lv_at hl 1 rfl) ?_
  refine lv_iload_n hx hb dX12_holdBy_2 rfl (lv_at hl 3 rfl) ?_
  refine lv_iload hx hb dX12_holdBy_3 (lv_at hl 4 rfl) ?_
  refine cpVi (rest := []) ⟨hx, hb, hml, hown, hts⟩ hKN (hP.sub (ws' := [(h0, .inr (12, [.int m_thrown, .ref m_qworld, .ref m_qimages, .ref m_qhasImage, .ref m_qtape, .int m_taped, .ref m_qfive, .int m_size, .int m_at, .int m_from, .int m_token, .int m_value, .int m_faultKind, .int m_faultPlace, .ref m_qfresh, .int m_startOne, .int m_startOther, .int m_latest, .int m_leftBeats, .int m_signed, .int m_metMany, .ref m_qsums, .ref m_qpairs, .ref m_qgoesWith, .ref m_qsaid, .int m_saidMany, .int m_firstWait, .ref m_qfirstOrder, .int m_bundleFirst, .ref m_qtiredBy, .int m_tiredMany, .ref m_qmany, .ref m_qwidth, .ref m_qnumbers, .ref m_qmoving])), (m_qworld, .inl (cA 1, 122, .inl m_cworld))]) [0, 1] rfl) (g_X12_gripLess l D cA h0 m_thrown m_qworld m_qimages m_qhasImage m_qtape m_taped m_qfive m_size m_at m_from m_token m_value m_faultKind m_faultPlace m_qfresh m_startOne m_startOther m_latest m_leftBeats m_signed m_metMany m_qsums m_qpairs m_qgoesWith m_qsaid m_saidMany m_firstWait m_qfirstOrder m_bundleFirst m_qtiredBy m_tiredMany m_qmany m_qwidth m_qnumbers m_qmoving m_cworld p0 p2 p3 (by omega) (by omega) (by omega) (by omega) (by omega) (by omega) (by omega) a_m_cworld_0) (tb_V tw_1708 tw_1710 tw_65 tw_114 tw_1711) hdX12_gripLess ⟨rfl, rfl, Nat.le_of_ble_eq_true rfl, Nat.le_of_ble_eq_true rfl⟩ ⟨Nat.le_of_ble_eq_true rfl, Nat.le_of_ble_eq_true rfl⟩ rfl rfl rfl hl.1 rfl (Nat.le_of_ble_eq_true rfl) dX12_holdBy_5 (fun r_1 hr_1 => ?_)
  refine lv_aload_n hx hb dX12_holdBy_8 rfl (lv_at hl 0 rfl) ?_
  refine lv_iload_n hx hb dX12_holdBy_9 rfl (lv_at hl 2 rfl) ?_
  refine lv_iload_n hx hb dX12_holdBy_10 rfl (lv_at hl 3 rfl) ?_
  refine lv_iload hx hb dX12_holdBy_11 (lv_at hl 4 rfl) ?_
  refine cpVi (rest := [.int r_1]) ⟨hx, hb, hml, hown, hts⟩ hKN (hP.sub (ws' := [(h0, .inr (12, [.int m_thrown, .ref m_qworld, .ref m_qimages, .ref m_qhasImage, .ref m_qtape, .int m_taped, .ref m_qfive, .int m_size, .int m_at, .int m_from, .int m_token, .int m_value, .int m_faultKind, .int m_faultPlace, .ref m_qfresh, .int m_startOne, .int m_startOther, .int m_latest, .int m_leftBeats, .int m_signed, .int m_metMany, .ref m_qsums, .ref m_qpairs, .ref m_qgoesWith, .ref m_qsaid, .int m_saidMany, .int m_firstWait, .ref m_qfirstOrder, .int m_bundleFirst, .ref m_qtiredBy, .int m_tiredMany, .ref m_qmany, .ref m_qwidth, .ref m_qnumbers, .ref m_qmoving])), (m_qworld, .inl (cA 1, 122, .inl m_cworld))]) [0, 1] rfl) (g_X12_gripLess l D cA h0 m_thrown m_qworld m_qimages m_qhasImage m_qtape m_taped m_qfive m_size m_at m_from m_token m_value m_faultKind m_faultPlace m_qfresh m_startOne m_startOther m_latest m_leftBeats m_signed m_metMany m_qsums m_qpairs m_qgoesWith m_qsaid m_saidMany m_firstWait m_qfirstOrder m_bundleFirst m_qtiredBy m_tiredMany m_qmany m_qwidth m_qnumbers m_qmoving m_cworld p1 p2 p3 (by omega) (by omega) (by omega) (by omega) (by omega) (by omega) (by omega) a_m_cworld_0) (tb_V tw_1708 tw_1710 tw_65 tw_114 tw_1711) hdX12_gripLess ⟨rfl, rfl, Nat.le_of_ble_eq_true rfl, Nat.le_of_ble_eq_true rfl⟩ ⟨Nat.le_of_ble_eq_true rfl, Nat.le_of_ble_eq_true rfl⟩ rfl rfl rfl hl.1 rfl (Nat.le_of_ble_eq_true rfl) dX12_holdBy_13 (fun r_2 hr_2 => ?_)
  refine cpSi (rest := []) ⟨hx, hb, hml, hown, hts⟩ hKN (hP.sub (ws' := []) [] rfl) (g_J9_min_7cf53 l D cA r_1 r_2) (tb_S tw_1566 tw_555 tw_115 tw_556) hdJ9_min_7cf53 ⟨rfl, rfl, Nat.le_of_ble_eq_true rfl, Nat.le_of_ble_eq_true rfl⟩ ⟨Nat.le_of_ble_eq_true rfl, Nat.le_of_ble_eq_true rfl⟩ rfl hl.1 rfl (Nat.le_of_ble_eq_true rfl) dX12_holdBy_16 (fun r_3 hr_3 => ?_)
  obtain ⟨k_3_0_0, k_3_0_1, k_3_0_2⟩ := hr_3
  refine lv_aload_n hx hb dX12_holdBy_19 rfl (lv_at hl 0 rfl) ?_
  refine lv_iload_n hx hb dX12_holdBy_20 rfl (lv_at hl 1 rfl) ?_
  refine lv_iconst (v := 2) hx hb dX12_holdBy_21 (by decide) ?_
  have z_4 := zi_2
  refine cpVi (rest := [.int r_3]) ⟨hx, hb, hml, hown, hts⟩ hKN (hP.sub (ws' := [(h0, .inr (12, [.int m_thrown, .ref m_qworld, .ref m_qimages, .ref m_qhasImage, .ref m_qtape, .int m_taped, .ref m_qfive, .int m_size, .int m_at, .int m_from, .int m_token, .int m_value, .int m_faultKind, .int m_faultPlace, .ref m_qfresh, .int m_startOne, .int m_startOther, .int m_latest, .int m_leftBeats, .int m_signed, .int m_metMany, .ref m_qsums, .ref m_qpairs, .ref m_qgoesWith, .ref m_qsaid, .int m_saidMany, .int m_firstWait, .ref m_qfirstOrder, .int m_bundleFirst, .ref m_qtiredBy, .int m_tiredMany, .ref m_qmany, .ref m_qwidth, .ref m_qnumbers, .ref m_qmoving])), (m_qworld, .inl (cA 1, 122, .inl m_cworld))]) [0, 1] rfl) (g_X12_of l D cA h0 m_thrown m_qworld m_qimages m_qhasImage m_qtape m_taped m_qfive m_size m_at m_from m_token m_value m_faultKind m_faultPlace m_qfresh m_startOne m_startOther m_latest m_leftBeats m_signed m_metMany m_qsums m_qpairs m_qgoesWith m_qsaid m_saidMany m_firstWait m_qfirstOrder m_bundleFirst m_qtiredBy m_tiredMany m_qmany m_qwidth m_qnumbers m_qmoving m_cworld p0 2 (by omega) (by omega) (by omega) (by omega) (by omega) (by omega) (by omega) (by decide) a_m_cworld_0) (tb_V tw_1640 tw_1642 tw_50 tw_114 tw_1643) hdX12_of ⟨rfl, rfl, Nat.le_of_ble_eq_true rfl, Nat.le_of_ble_eq_true rfl⟩ ⟨Nat.le_of_ble_eq_true rfl, Nat.le_of_ble_eq_true rfl⟩ rfl rfl rfl hl.1 rfl (Nat.le_of_ble_eq_true rfl) dX12_holdBy_22 (fun r_5 hr_5 => ?_)
  obtain ⟨k_5_0_0, k_5_0_1⟩ := hr_5
  refine lv_aload_n hx hb dX12_holdBy_25 rfl (lv_at hl 0 rfl) ?_
  refine lv_iload_n hx hb dX12_holdBy_26 rfl (lv_at hl 2 rfl) ?_
  refine lv_iconst (v := 2) hx hb dX12_holdBy_27 (by decide) ?_
  refine cpVi (rest := [.int r_5, .int r_3]) ⟨hx, hb, hml, hown, hts⟩ hKN (hP.sub (ws' := [(h0, .inr (12, [.int m_thrown, .ref m_qworld, .ref m_qimages, .ref m_qhasImage, .ref m_qtape, .int m_taped, .ref m_qfive, .int m_size, .int m_at, .int m_from, .int m_token, .int m_value, .int m_faultKind, .int m_faultPlace, .ref m_qfresh, .int m_startOne, .int m_startOther, .int m_latest, .int m_leftBeats, .int m_signed, .int m_metMany, .ref m_qsums, .ref m_qpairs, .ref m_qgoesWith, .ref m_qsaid, .int m_saidMany, .int m_firstWait, .ref m_qfirstOrder, .int m_bundleFirst, .ref m_qtiredBy, .int m_tiredMany, .ref m_qmany, .ref m_qwidth, .ref m_qnumbers, .ref m_qmoving])), (m_qworld, .inl (cA 1, 122, .inl m_cworld))]) [0, 1] rfl) (g_X12_of l D cA h0 m_thrown m_qworld m_qimages m_qhasImage m_qtape m_taped m_qfive m_size m_at m_from m_token m_value m_faultKind m_faultPlace m_qfresh m_startOne m_startOther m_latest m_leftBeats m_signed m_metMany m_qsums m_qpairs m_qgoesWith m_qsaid m_saidMany m_firstWait m_qfirstOrder m_bundleFirst m_qtiredBy m_tiredMany m_qmany m_qwidth m_qnumbers m_qmoving m_cworld p1 2 (by omega) (by omega) (by omega) (by omega) (by omega) (by omega) (by omega) (by decide) a_m_cworld_0) (tb_V tw_1640 tw_1642 tw_50 tw_114 tw_1643) hdX12_of ⟨rfl, rfl, Nat.le_of_ble_eq_true rfl, Nat.le_of_ble_eq_true rfl⟩ ⟨Nat.le_of_ble_eq_true rfl, Nat.le_of_ble_eq_true rfl⟩ rfl rfl rfl hl.1 rfl (Nat.le_of_ble_eq_true rfl) dX12_holdBy_28 (fun r_6 hr_6 => ?_)
  obtain ⟨k_6_0_0, k_6_0_1⟩ := hr_6
  refine cpSi (rest := [.int r_3]) ⟨hx, hb, hml, hown, hts⟩ hKN (hP.sub (ws' := []) [] rfl) (g_J9_min_7cf53 l D cA r_5 r_6) (tb_S tw_1566 tw_555 tw_115 tw_556) hdJ9_min_7cf53 ⟨rfl, rfl, Nat.le_of_ble_eq_true rfl, Nat.le_of_ble_eq_true rfl⟩ ⟨Nat.le_of_ble_eq_true rfl, Nat.le_of_ble_eq_true rfl⟩ rfl hl.1 rfl (Nat.le_of_ble_eq_true rfl) dX12_holdBy_31 (fun r_7 hr_7 => ?_)
  obtain ⟨k_7_0_0, k_7_0_1, k_7_0_2⟩ := hr_7
  refine lv_iadd hx hb dX12_holdBy_34 ?_
  refine lv_topi (fun x_8 ex_8 => ?_)
  exact W.iret (v := x_8) hx hb hr (fun t ht hW => ⟨x_8, rfl, trivial, ht⟩) (fun _ h => by cases h) dX12_holdBy_35
set_option maxHeartbeats 8000000 in
set_option maxRecDepth 100000 in
theorem g_X12_holdOf (l : Launch) (D : va_G) (cA : Nat → ClassId) (h0 : Nat) (m_thrown : Int32) (m_qworld : Nat) (m_qimages : Nat) (m_qhasImage : Nat) (m_qtape : Nat) (m_taped : Int32) (m_qfive : Nat) (m_size : Int32) (m_at : Int32) (m_from : Int32) (m_token : Int32) (m_value : Int32) (m_faultKind : Int32) (m_faultPlace : Int32) (m_qfresh : Nat) (m_startOne : Int32) (m_startOther : Int32) (m_latest : Int32) (m_leftBeats : Int32) (m_signed : Int32) (m_metMany : Int32) (m_qsums : Nat) (m_qpairs : Nat) (m_qgoesWith : Nat) (m_qsaid : Nat) (m_saidMany : Int32) (m_firstWait : Int32) (m_qfirstOrder : Nat) (m_bundleFirst : Int32) (m_qtiredBy : Nat) (m_tiredMany : Int32) (m_qmany : Nat) (m_qwidth : Nat) (m_qnumbers : Nat) (m_qmoving : Nat) (m_cworld : Nat → Int32) (p0 : Int32) (p1 : Int32) (h_m_taped : 0 ≤ (m_taped : Int32).toInt ∧ (m_taped : Int32).toInt ≤ 800) (h_m_size : 0 ≤ (m_size : Int32).toInt ∧ (m_size : Int32).toInt ≤ 800) (h_m_at : 0 ≤ (m_at : Int32).toInt ∧ (m_at : Int32).toInt ≤ 800) (h_m_from : 0 ≤ (m_from : Int32).toInt ∧ (m_from : Int32).toInt ≤ 800) (h_m_saidMany : 0 ≤ (m_saidMany : Int32).toInt ∧ (m_saidMany : Int32).toInt ≤ 60) (h_m_tiredMany : 0 ≤ (m_tiredMany : Int32).toInt ∧ (m_tiredMany : Int32).toInt ≤ 240) (h_p0 : 0 ≤ (p0 : Int32).toInt ∧ (p0 : Int32).toInt ≤ 7) (h_p1 : 0 ≤ (p1 : Int32).toInt ∧ (p1 : Int32).toInt ≤ 7) (a_m_cworld_0 : WI m_cworld) : Met l yX12_holdOf (Cond.code yX12_holdOf cX12_holdOf 3 (some .int) :: TB) (rmd 3 0 0) (PP D cA [(h0, .inr (12, [.int m_thrown, .ref m_qworld, .ref m_qimages, .ref m_qhasImage, .ref m_qtape, .int m_taped, .ref m_qfive, .int m_size, .int m_at, .int m_from, .int m_token, .int m_value, .int m_faultKind, .int m_faultPlace, .ref m_qfresh, .int m_startOne, .int m_startOther, .int m_latest, .int m_leftBeats, .int m_signed, .int m_metMany, .ref m_qsums, .ref m_qpairs, .ref m_qgoesWith, .ref m_qsaid, .int m_saidMany, .int m_firstWait, .ref m_qfirstOrder, .int m_bundleFirst, .ref m_qtiredBy, .int m_tiredMany, .ref m_qmany, .ref m_qwidth, .ref m_qnumbers, .ref m_qmoving])), (m_qworld, .inl (cA 1, 122, .inl m_cworld))] [.ref h0, .int p0, .int p1]) (vp_Si (fun r => True)) 0 0 (fun _ => False) := by
  refine Met.ofW (cc := cX12_holdOf) (maxL := 3) (ret := (some .int)) (by decide) rfl ?_
  intro p e s m args below meth c s₁ B hml hv
  obtain ⟨rfl, hP, hKN⟩ := hv
  have hx := B.exec
  have hb := B.bytes
  have hr := B.returns
  have hts : ∀ w ∈ TB, w.before _ s = true := fun w h => atoms_spec B.pre w (List.mem_cons_of_mem _ h)
  have hown : s.vm.findClass RX12 = some m.cls := findClass_of_methodNamed B.named
  have hlocks := B.notSynchronized
  have hl := lv_entry ([.ref h0, .int p0, .int p1]) (n := 3) (Nat.le_of_ble_eq_true rfl)
  rw [lg_entry_eq]
  generalize (lg_sl ([.ref h0, .int p0, .int p1]) ++ List.replicate (3 - (lg_sl ([.ref h0, .int p0, .int p1])).length) Slot.unset).toArray = ls at hl ⊢
  have hl : lv_has ls 3 [(0, .ref h0), (1, .int p0), (2, .int p1)] := hl
  refine lv_aload_n hx hb dX12_holdOf_0 rfl (lv_at hl 0 rfl) ?_
  refine lv_iload_n hx hb dX12_holdOf_1 rfl (lv_at hl 1 rfl) ?_
  refine lv_iload_n hx hb dX12_holdOf_2 rfl (lv_at hl 2 rfl) ?_
  refine lv_iconst (v := (-1)) hx hb dX12_holdOf_3 (by decide) ?_
  refine lv_iconst (v := 0) hx hb dX12_holdOf_4 (by decide) ?_
  have z_1 := zi_m1
  have z_2 := zi_0
  refine cpVi (rest := []) ⟨hx, hb, hml, hown, hts⟩ hKN (hP.sub (ws' := [(h0, .inr (12, [.int m_thrown, .ref m_qworld, .ref m_qimages, .ref m_qhasImage, .ref m_qtape, .int m_taped, .ref m_qfive, .int m_size, .int m_at, .int m_from, .int m_token, .int m_value, .int m_faultKind, .int m_faultPlace, .ref m_qfresh, .int m_startOne, .int m_startOther, .int m_latest, .int m_leftBeats, .int m_signed, .int m_metMany, .ref m_qsums, .ref m_qpairs, .ref m_qgoesWith, .ref m_qsaid, .int m_saidMany, .int m_firstWait, .ref m_qfirstOrder, .int m_bundleFirst, .ref m_qtiredBy, .int m_tiredMany, .ref m_qmany, .ref m_qwidth, .ref m_qnumbers, .ref m_qmoving])), (m_qworld, .inl (cA 1, 122, .inl m_cworld))]) [0, 1] rfl) (g_X12_holdBy l D cA h0 m_thrown m_qworld m_qimages m_qhasImage m_qtape m_taped m_qfive m_size m_at m_from m_token m_value m_faultKind m_faultPlace m_qfresh m_startOne m_startOther m_latest m_leftBeats m_signed m_metMany m_qsums m_qpairs m_qgoesWith m_qsaid m_saidMany m_firstWait m_qfirstOrder m_bundleFirst m_qtiredBy m_tiredMany m_qmany m_qwidth m_qnumbers m_qmoving m_cworld p0 p1 (-1) 0 (by omega) (by omega) (by omega) (by omega) (by omega) (by omega) (by omega) (by omega) a_m_cworld_0) (tb_V tw_1704 tw_1706 tw_64 tw_114 tw_1707) hdX12_holdBy ⟨rfl, rfl, Nat.le_of_ble_eq_true rfl, Nat.le_of_ble_eq_true rfl⟩ ⟨Nat.le_of_ble_eq_true rfl, Nat.le_of_ble_eq_true rfl⟩ rfl rfl rfl hl.1 rfl (Nat.le_of_ble_eq_true rfl) dX12_holdOf_5 (fun r_3 hr_3 => ?_)
  exact W.iret (v := r_3) hx hb hr (fun t ht hW => ⟨r_3, rfl, trivial, ht⟩) (fun _ h => by cases h) dX12_holdOf_8
set_option maxHeartbeats 8000000 in
set_option maxRecDepth 100000 in
theorem g_X12_areMen (l : Launch) (D : va_G) (cA : Nat → ClassId) (h0 : Nat) (m_thrown : Int32) (m_qworld : Nat) (m_qimages : Nat) (m_qhasImage : Nat) (m_qtape : Nat) (m_taped : Int32) (m_qfive : Nat) (m_size : Int32) (m_at : Int32) (m_from : Int32) (m_token : Int32) (m_value : Int32) (m_faultKind : Int32) (m_faultPlace : Int32) (m_qfresh : Nat) (m_startOne : Int32) (m_startOther : Int32) (m_latest : Int32) (m_leftBeats : Int32) (m_signed : Int32) (m_metMany : Int32) (m_qsums : Nat) (m_qpairs : Nat) (m_qgoesWith : Nat) (m_qsaid : Nat) (m_saidMany : Int32) (m_firstWait : Int32) (m_qfirstOrder : Nat) (m_bundleFirst : Int32) (m_qtiredBy : Nat) (m_tiredMany : Int32) (m_qmany : Nat) (m_qwidth : Nat) (m_qnumbers : Nat) (m_qmoving : Nat) (m_cworld : Nat → Int32) (p0 : Int32) (p1 : Int32) (h_m_taped : 0 ≤ (m_taped : Int32).toInt ∧ (m_taped : Int32).toInt ≤ 800) (h_m_size : 0 ≤ (m_size : Int32).toInt ∧ (m_size : Int32).toInt ≤ 800) (h_m_at : 0 ≤ (m_at : Int32).toInt ∧ (m_at : Int32).toInt ≤ 800) (h_m_from : 0 ≤ (m_from : Int32).toInt ∧ (m_from : Int32).toInt ≤ 800) (h_m_saidMany : 0 ≤ (m_saidMany : Int32).toInt ∧ (m_saidMany : Int32).toInt ≤ 60) (h_m_tiredMany : 0 ≤ (m_tiredMany : Int32).toInt ∧ (m_tiredMany : Int32).toInt ≤ 240) (a_m_cworld_0 : WI m_cworld) : Met l yX12_areMen (Cond.code yX12_areMen cX12_areMen 3 (some .boolean) :: TB) (rmd 2 0 0) (PP D cA [(h0, .inr (12, [.int m_thrown, .ref m_qworld, .ref m_qimages, .ref m_qhasImage, .ref m_qtape, .int m_taped, .ref m_qfive, .int m_size, .int m_at, .int m_from, .int m_token, .int m_value, .int m_faultKind, .int m_faultPlace, .ref m_qfresh, .int m_startOne, .int m_startOther, .int m_latest, .int m_leftBeats, .int m_signed, .int m_metMany, .ref m_qsums, .ref m_qpairs, .ref m_qgoesWith, .ref m_qsaid, .int m_saidMany, .int m_firstWait, .ref m_qfirstOrder, .int m_bundleFirst, .ref m_qtiredBy, .int m_tiredMany, .ref m_qmany, .ref m_qwidth, .ref m_qnumbers, .ref m_qmoving])), (m_qworld, .inl (cA 1, 122, .inl m_cworld))] [.ref h0, .int p0, .int p1]) (vp_Si (fun r => ((0 ≤ (p0 : Int32).toInt) ∧ ((p0 : Int32).toInt ≤ 7) ∧ (0 ≤ (p1 : Int32).toInt) ∧ ((p1 : Int32).toInt ≤ 7) ∧ (1 ≤ (m_cworld 0).toInt) ∧ (1 ≤ (m_cworld 1).toInt) ∧ ((m_cworld 0).toInt ≤ 20) ∧ ((m_cworld 1).toInt ≤ 20) ∧ (r = 1)) ∨ ((r = 0)))) 0 0 (fun _ => False) := by
  refine Met.ofW (cc := cX12_areMen) (maxL := 3) (ret := (some .boolean)) (by decide) rfl ?_
  intro p e s m args below meth c s₁ B hml hv
  obtain ⟨rfl, hP, hKN⟩ := hv
  have hx := B.exec
  have hb := B.bytes
  have hr := B.returns
  have hts : ∀ w ∈ TB, w.before _ s = true := fun w h => atoms_spec B.pre w (List.mem_cons_of_mem _ h)
  have hown : s.vm.findClass RX12 = some m.cls := findClass_of_methodNamed B.named
  have hlocks := B.notSynchronized
  have hl := lv_entry ([.ref h0, .int p0, .int p1]) (n := 3) (Nat.le_of_ble_eq_true rfl)
  rw [lg_entry_eq]
  generalize (lg_sl ([.ref h0, .int p0, .int p1]) ++ List.replicate (3 - (lg_sl ([.ref h0, .int p0, .int p1])).length) Slot.unset).toArray = ls at hl ⊢
  have hl : lv_has ls 3 [(0, .ref h0), (1, .int p0), (2, .int p1)] := hl
  refine lv_aload_n hx hb dX12_areMen_0 rfl (lv_at hl 0 rfl) ?_
  refine lv_iload_n hx hb dX12_areMen_1 rfl (lv_at hl 1 rfl) ?_
  obtain ⟨x_1, ex_1⟩ : ∃ y, p0.toInt64 = y := ⟨_, rfl⟩
  refine lv_i2l (v := x_1) hx hb dX12_areMen_2 ex_1 ?_
  have k_2 := tt_i2l ex_1
  refine cpVi (rest := []) ⟨hx, hb, hml, hown, hts⟩ hKN (hP.sub (ws' := [(h0, .inr (12, [.int m_thrown, .ref m_qworld, .ref m_qimages, .ref m_qhasImage, .ref m_qtape, .int m_taped, .ref m_qfive, .int m_size, .int m_at, .int m_from, .int m_token, .int m_value, .int m_faultKind, .int m_faultPlace, .ref m_qfresh, .int m_startOne, .int m_startOther, .int m_latest, .int m_leftBeats, .int m_signed, .int m_metMany, .ref m_qsums, .ref m_qpairs, .ref m_qgoesWith, .ref m_qsaid, .int m_saidMany, .int m_firstWait, .ref m_qfirstOrder, .int m_bundleFirst, .ref m_qtiredBy, .int m_tiredMany, .ref m_qmany, .ref m_qwidth, .ref m_qnumbers, .ref m_qmoving])), (m_qworld, .inl (cA 1, 122, .inl m_cworld))]) [0, 1] rfl) (g_X12_isMan l D cA h0 m_thrown m_qworld m_qimages m_qhasImage m_qtape m_taped m_qfive m_size m_at m_from m_token m_value m_faultKind m_faultPlace m_qfresh m_startOne m_startOther m_latest m_leftBeats m_signed m_metMany m_qsums m_qpairs m_qgoesWith m_qsaid m_saidMany m_firstWait m_qfirstOrder m_bundleFirst m_qtiredBy m_tiredMany m_qmany m_qwidth m_qnumbers m_qmoving m_cworld x_1 (by omega) (by omega) (by omega) (by omega) (by omega) (by omega) a_m_cworld_0) (tb_V tw_1636 tw_1638 tw_49 tw_114 tw_1639) hdX12_isMan ⟨rfl, rfl, Nat.le_of_ble_eq_true rfl, Nat.le_of_ble_eq_true rfl⟩ ⟨Nat.le_of_ble_eq_true rfl, Nat.le_of_ble_eq_true rfl⟩ rfl rfl rfl hl.1 rfl (Nat.le_of_ble_eq_true rfl) dX12_areMen_3 (fun r_3 hr_3 => ?_)
  rcases hr_3 with ⟨k_3_0_0, k_3_0_1, k_3_0_2, k_3_0_3, k_3_0_4, k_3_0_5, rfl⟩ | rfl
  · skip
    refine lv_if_eq (tgt := 22) hx hb dX12_areMen_6 (by decide) (fun c_4 => absurd c_4 (by decide)) (fun c_4 => ?_)
    refine lv_aload_n hx hb dX12_areMen_9 rfl (lv_at hl 0 rfl) ?_
    refine lv_iload_n hx hb dX12_areMen_10 rfl (lv_at hl 2 rfl) ?_
    obtain ⟨x_5, ex_5⟩ : ∃ y, p1.toInt64 = y := ⟨_, rfl⟩
    refine lv_i2l (v := x_5) hx hb dX12_areMen_11 ex_5 ?_
    have k_6 := tt_i2l ex_5
    refine cpVi (rest := []) ⟨hx, hb, hml, hown, hts⟩ hKN (hP.sub (ws' := [(h0, .inr (12, [.int m_thrown, .ref m_qworld, .ref m_qimages, .ref m_qhasImage, .ref m_qtape, .int m_taped, .ref m_qfive, .int m_size, .int m_at, .int m_from, .int m_token, .int m_value, .int m_faultKind, .int m_faultPlace, .ref m_qfresh, .int m_startOne, .int m_startOther, .int m_latest, .int m_leftBeats, .int m_signed, .int m_metMany, .ref m_qsums, .ref m_qpairs, .ref m_qgoesWith, .ref m_qsaid, .int m_saidMany, .int m_firstWait, .ref m_qfirstOrder, .int m_bundleFirst, .ref m_qtiredBy, .int m_tiredMany, .ref m_qmany, .ref m_qwidth, .ref m_qnumbers, .ref m_qmoving])), (m_qworld, .inl (cA 1, 122, .inl m_cworld))]) [0, 1] rfl) (g_X12_isMan l D cA h0 m_thrown m_qworld m_qimages m_qhasImage m_qtape m_taped m_qfive m_size m_at m_from m_token m_value m_faultKind m_faultPlace m_qfresh m_startOne m_startOther m_latest m_leftBeats m_signed m_metMany m_qsums m_qpairs m_qgoesWith m_qsaid m_saidMany m_firstWait m_qfirstOrder m_bundleFirst m_qtiredBy m_tiredMany m_qmany m_qwidth m_qnumbers m_qmoving m_cworld x_5 (by omega) (by omega) (by omega) (by omega) (by omega) (by omega) a_m_cworld_0) (tb_V tw_1636 tw_1638 tw_49 tw_114 tw_1639) hdX12_isMan ⟨rfl, rfl, Nat.le_of_ble_eq_true rfl, Nat.le_of_ble_eq_true rfl⟩ ⟨Nat.le_of_ble_eq_true rfl, Nat.le_of_ble_eq_true rfl⟩ rfl rfl rfl hl.1 rfl (Nat.le_of_ble_eq_true rfl) dX12_areMen_12 (fun r_7 hr_7 => ?_)
    rcases hr_7 with ⟨k_7_0_0, k_7_0_1, k_7_0_2, k_7_0_3, k_7_0_4, k_7_0_5, rfl⟩ | rfl
    · skip
      refine lv_if_eq (tgt := 22) hx hb dX12_areMen_15 (by decide) (fun c_8 => absurd c_8 (by decide)) (fun c_8 => ?_)
      refine lv_iconst (v := 1) hx hb dX12_areMen_18 (by decide) ?_
      refine lv_goto (tgt := 23) hx hb dX12_areMen_19 (by decide) ?_
      exact W.zret (v := 1) hx hb hr (by decide) (fun t ht hW => ⟨1, rfl, (Or.inl (⟨(by first | omega | assumption), (by first | omega | assumption), (by first | omega | assumption), (by first | omega | assumption), (by first | omega | assumption), (by first | omega | assumption), (by first | omega | assumption), (by first | omega | assumption), rfl⟩)), ht⟩) (fun _ h => by cases h) dX12_areMen_23
    · skip
      refine lv_if_eq (tgt := 22) hx hb dX12_areMen_15 (by decide) (fun c_9 => ?_) (fun c_9 => absurd (by decide) c_9)
      refine lv_iconst (v := 0) hx hb dX12_areMen_22 (by decide) ?_
      exact W.zret (v := 0) hx hb hr (by decide) (fun t ht hW => ⟨0, rfl, (Or.inr (rfl)), ht⟩) (fun _ h => by cases h) dX12_areMen_23
  · skip
    refine lv_if_eq (tgt := 22) hx hb dX12_areMen_6 (by decide) (fun c_10 => ?_) (fun c_10 => absurd (by decide) c_10)
    refine lv_iconst (v := 0) hx hb dX12_areMen_22 (by decide) ?_
    exact W.zret (v := 0) hx hb hr (by decide) (fun t ht hW => ⟨0, rfl, (Or.inr (rfl)), ht⟩) (fun _ h => by cases h) dX12_areMen_23
set_option maxHeartbeats 8000000 in
set_option maxRecDepth 100000 in
theorem g_X12_isPair (l : Launch) (D : va_G) (cA : Nat → ClassId) (h0 : Nat) (m_thrown : Int32) (m_qworld : Nat) (m_qimages : Nat) (m_qhasImage : Nat) (m_qtape : Nat) (m_taped : Int32) (m_qfive : Nat) (m_size : Int32) (m_at : Int32) (m_from : Int32) (m_token : Int32) (m_value : Int32) (m_faultKind : Int32) (m_faultPlace : Int32) (m_qfresh : Nat) (m_startOne : Int32) (m_startOther : Int32) (m_latest : Int32) (m_leftBeats : Int32) (m_signed : Int32) (m_metMany : Int32) (m_qsums : Nat) (m_qpairs : Nat) (m_qgoesWith : Nat) (m_qsaid : Nat) (m_saidMany : Int32) (m_firstWait : Int32) (m_qfirstOrder : Nat) (m_bundleFirst : Int32) (m_qtiredBy : Nat) (m_tiredMany : Int32) (m_qmany : Nat) (m_qwidth : Nat) (m_qnumbers : Nat) (m_qmoving : Nat) (m_cworld : Nat → Int32) (p0 : Int32) (p1 : Int32) (h_m_taped : 0 ≤ (m_taped : Int32).toInt ∧ (m_taped : Int32).toInt ≤ 800) (h_m_size : 0 ≤ (m_size : Int32).toInt ∧ (m_size : Int32).toInt ≤ 800) (h_m_at : 0 ≤ (m_at : Int32).toInt ∧ (m_at : Int32).toInt ≤ 800) (h_m_from : 0 ≤ (m_from : Int32).toInt ∧ (m_from : Int32).toInt ≤ 800) (h_m_saidMany : 0 ≤ (m_saidMany : Int32).toInt ∧ (m_saidMany : Int32).toInt ≤ 60) (h_m_tiredMany : 0 ≤ (m_tiredMany : Int32).toInt ∧ (m_tiredMany : Int32).toInt ≤ 240) (h_p0 : 0 ≤ (p0 : Int32).toInt ∧ (p0 : Int32).toInt ≤ 7) (h_p1 : 0 ≤ (p1 : Int32).toInt ∧ (p1 : Int32).toInt ≤ 7) (a_m_cworld_0 : WI m_cworld) : Met l yX12_isPair (Cond.code yX12_isPair cX12_isPair 3 (some .boolean) :: TB) (rmd 1 0 0) (PP D cA [(h0, .inr (12, [.int m_thrown, .ref m_qworld, .ref m_qimages, .ref m_qhasImage, .ref m_qtape, .int m_taped, .ref m_qfive, .int m_size, .int m_at, .int m_from, .int m_token, .int m_value, .int m_faultKind, .int m_faultPlace, .ref m_qfresh, .int m_startOne, .int m_startOther, .int m_latest, .int m_leftBeats, .int m_signed, .int m_metMany, .ref m_qsums, .ref m_qpairs, .ref m_qgoesWith, .ref m_qsaid, .int m_saidMany, .int m_firstWait, .ref m_qfirstOrder, .int m_bundleFirst, .ref m_qtiredBy, .int m_tiredMany, .ref m_qmany, .ref m_qwidth, .ref m_qnumbers, .ref m_qmoving])), (m_qworld, .inl (cA 1, 122, .inl m_cworld))] [.ref h0, .int p0, .int p1]) (vp_Si (fun r => 0 ≤ r.toInt ∧ r.toInt ≤ 1)) 0 0 (fun _ => False) := by
  refine Met.ofW (cc := cX12_isPair) (maxL := 3) (ret := (some .boolean)) (by decide) rfl ?_
  intro p e s m args below meth c s₁ B hml hv
  obtain ⟨rfl, hP, hKN⟩ := hv
  have hx := B.exec
  have hb := B.bytes
  have hr := B.returns
  have hts : ∀ w ∈ TB, w.before _ s = true := fun w h => atoms_spec B.pre w (List.mem_cons_of_mem _ h)
  have hown : s.vm.findClass RX12 = some m.cls := findClass_of_methodNamed B.named
  have hlocks := B.notSynchronized
  have hl := lv_entry ([.ref h0, .int p0, .int p1]) (n := 3) (Nat.le_of_ble_eq_true rfl)
  rw [lg_entry_eq]
  generalize (lg_sl ([.ref h0, .int p0, .int p1]) ++ List.replicate (3 - (lg_sl ([.ref h0, .int p0, .int p1])).length) Slot.unset).toArray = ls at hl ⊢
  have hl : lv_has ls 3 [(0, .ref h0), (1, .int p0), (2, .int p1)] := hl
  refine lv_aload_n hx hb dX12_isPair_0 rfl (lv_at hl 0 rfl) ?_
  refine lv_iload_n hx hb dX12_isPair_1 rfl (lv_at hl 1 rfl) ?_
  refine lv_iconst (v := 0) hx hb dX12_isPair_2 (by decide) ?_
  have z_1 := zi_0
  refine cpVi (rest := []) ⟨hx, hb, hml, hown, hts⟩ hKN (hP.sub (ws' := [(h0, .inr (12, [.int m_thrown, .ref m_qworld, .ref m_qimages, .ref m_qhasImage, .ref m_qtape, .int m_taped, .ref m_qfive, .int m_size, .int m_at, .int m_from, .int m_token, .int m_value, .int m_faultKind, .int m_faultPlace, .ref m_qfresh, .int m_startOne, .int m_startOther, .int m_latest, .int m_leftBeats, .int m_signed, .int m_metMany, .ref m_qsums, .ref m_qpairs, .ref m_qgoesWith, .ref m_qsaid, .int m_saidMany, .int m_firstWait, .ref m_qfirstOrder, .int m_bundleFirst, .ref m_qtiredBy, .int m_tiredMany, .ref m_qmany, .ref m_qwidth, .ref m_qnumbers, .ref m_qmoving])), (m_qworld, .inl (cA 1, 122, .inl m_cworld))]) [0, 1] rfl) (g_X12_of l D cA h0 m_thrown m_qworld m_qimages m_qhasImage m_qtape m_taped m_qfive m_size m_at m_from m_token m_value m_faultKind m_faultPlace m_qfresh m_startOne m_startOther m_latest m_leftBeats m_signed m_metMany m_qsums m_qpairs m_qgoesWith m_qsaid m_saidMany m_firstWait m_qfirstOrder m_bundleFirst m_qtiredBy m_tiredMany m_qmany m_qwidth m_qnumbers m_qmoving m_cworld p0 0 (by omega) (by omega) (by omega) (by omega) (by omega) (by omega) (by omega) (by decide) a_m_cworld_0) (tb_V tw_1640 tw_1642 tw_50 tw_114 tw_1643) hdX12_of ⟨rfl, rfl, Nat.le_of_ble_eq_true rfl, Nat.le_of_ble_eq_true rfl⟩ ⟨Nat.le_of_ble_eq_true rfl, Nat.le_of_ble_eq_true rfl⟩ rfl rfl rfl hl.1 rfl (Nat.le_of_ble_eq_true rfl) dX12_isPair_3 (fun r_2 hr_2 => ?_)
  obtain ⟨k_2_0_0, k_2_0_1⟩ := hr_2
  refine lv_aload_n hx hb dX12_isPair_6 rfl (lv_at hl 0 rfl) ?_
  refine lv_iload_n hx hb dX12_isPair_7 rfl (lv_at hl 2 rfl) ?_
  refine lv_iconst (v := 0) hx hb dX12_isPair_8 (by decide) ?_
  refine cpVi (rest := [.int r_2]) ⟨hx, hb, hml, hown, hts⟩ hKN (hP.sub (ws' := [(h0, .inr (12, [.int m_thrown, .ref m_qworld, .ref m_qimages, .ref m_qhasImage, .ref m_qtape, .int m_taped, .ref m_qfive, .int m_size, .int m_at, .int m_from, .int m_token, .int m_value, .int m_faultKind, .int m_faultPlace, .ref m_qfresh, .int m_startOne, .int m_startOther, .int m_latest, .int m_leftBeats, .int m_signed, .int m_metMany, .ref m_qsums, .ref m_qpairs, .ref m_qgoesWith, .ref m_qsaid, .int m_saidMany, .int m_firstWait, .ref m_qfirstOrder, .int m_bundleFirst, .ref m_qtiredBy, .int m_tiredMany, .ref m_qmany, .ref m_qwidth, .ref m_qnumbers, .ref m_qmoving])), (m_qworld, .inl (cA 1, 122, .inl m_cworld))]) [0, 1] rfl) (g_X12_of l D cA h0 m_thrown m_qworld m_qimages m_qhasImage m_qtape m_taped m_qfive m_size m_at m_from m_token m_value m_faultKind m_faultPlace m_qfresh m_startOne m_startOther m_latest m_leftBeats m_signed m_metMany m_qsums m_qpairs m_qgoesWith m_qsaid m_saidMany m_firstWait m_qfirstOrder m_bundleFirst m_qtiredBy m_tiredMany m_qmany m_qwidth m_qnumbers m_qmoving m_cworld p1 0 (by omega) (by omega) (by omega) (by omega) (by omega) (by omega) (by omega) (by decide) a_m_cworld_0) (tb_V tw_1640 tw_1642 tw_50 tw_114 tw_1643) hdX12_of ⟨rfl, rfl, Nat.le_of_ble_eq_true rfl, Nat.le_of_ble_eq_true rfl⟩ ⟨Nat.le_of_ble_eq_true rfl, Nat.le_of_ble_eq_true rfl⟩ rfl rfl rfl hl.1 rfl (Nat.le_of_ble_eq_true rfl) dX12_isPair_9 (fun r_3 hr_3 => ?_)
  obtain ⟨k_3_0_0, k_3_0_1⟩ := hr_3
  refine lv_icmp_eq (tgt := 19) hx hb dX12_isPair_12 (by decide) (fun c_4 => ?_) (fun c_4 => ?_)
  · skip
    have k_5 := kk_eq rfl rfl c_4
    refine lv_iconst (v := 0) hx hb dX12_isPair_19 (by decide) ?_
    exact W.zret (v := 0) hx hb hr (by decide) (fun t ht hW => ⟨0, rfl, (show 0 ≤ (0 : Int32).toInt ∧ (0 : Int32).toInt ≤ 1 from by decide), ht⟩) (fun _ h => by cases h) dX12_isPair_20
  · skip
    have k_6 := kk_ne rfl rfl c_4
    refine lv_iconst (v := 1) hx hb dX12_isPair_15 (by decide) ?_
    refine lv_goto (tgt := 20) hx hb dX12_isPair_16 (by decide) ?_
    exact W.zret (v := 1) hx hb hr (by decide) (fun t ht hW => ⟨1, rfl, (show 0 ≤ (1 : Int32).toInt ∧ (1 : Int32).toInt ≤ 1 from by decide), ht⟩) (fun _ h => by cases h) dX12_isPair_20
set_option maxHeartbeats 8000000 in
set_option maxRecDepth 100000 in
theorem g_X12_blows (l : Launch) (D : va_G) (cA : Nat → ClassId) (h0 : Nat) (m_thrown : Int32) (m_qworld : Nat) (m_qimages : Nat) (m_qhasImage : Nat) (m_qtape : Nat) (m_taped : Int32) (m_qfive : Nat) (m_size : Int32) (m_at : Int32) (m_from : Int32) (m_token : Int32) (m_value : Int32) (m_faultKind : Int32) (m_faultPlace : Int32) (m_qfresh : Nat) (m_startOne : Int32) (m_startOther : Int32) (m_latest : Int32) (m_leftBeats : Int32) (m_signed : Int32) (m_metMany : Int32) (m_qsums : Nat) (m_qpairs : Nat) (m_qgoesWith : Nat) (m_qsaid : Nat) (m_saidMany : Int32) (m_firstWait : Int32) (m_qfirstOrder : Nat) (m_bundleFirst : Int32) (m_qtiredBy : Nat) (m_tiredMany : Int32) (m_qmany : Nat) (m_qwidth : Nat) (m_qnumbers : Nat) (m_qmoving : Nat) (m_cworld : Nat → Int32) (p0 : Int32) (h_m_taped : 0 ≤ (m_taped : Int32).toInt ∧ (m_taped : Int32).toInt ≤ 800) (h_m_size : 0 ≤ (m_size : Int32).toInt ∧ (m_size : Int32).toInt ≤ 800) (h_m_at : 0 ≤ (m_at : Int32).toInt ∧ (m_at : Int32).toInt ≤ 800) (h_m_from : 0 ≤ (m_from : Int32).toInt ∧ (m_from : Int32).toInt ≤ 800) (h_m_saidMany : 0 ≤ (m_saidMany : Int32).toInt ∧ (m_saidMany : Int32).toInt ≤ 60) (h_m_tiredMany : 0 ≤ (m_tiredMany : Int32).toInt ∧ (m_tiredMany : Int32).toInt ≤ 240) (a_m_cworld_0 : WI m_cworld) : Met l yX12_blows (Cond.code yX12_blows cX12_blows 3 (some .boolean) :: TB) (rmd 1 0 0) (PP D cA [(h0, .inr (12, [.int m_thrown, .ref m_qworld, .ref m_qimages, .ref m_qhasImage, .ref m_qtape, .int m_taped, .ref m_qfive, .int m_size, .int m_at, .int m_from, .int m_token, .int m_value, .int m_faultKind, .int m_faultPlace, .ref m_qfresh, .int m_startOne, .int m_startOther, .int m_latest, .int m_leftBeats, .int m_signed, .int m_metMany, .ref m_qsums, .ref m_qpairs, .ref m_qgoesWith, .ref m_qsaid, .int m_saidMany, .int m_firstWait, .ref m_qfirstOrder, .int m_bundleFirst, .ref m_qtiredBy, .int m_tiredMany, .ref m_qmany, .ref m_qwidth, .ref m_qnumbers, .ref m_qmoving])), (m_qworld, .inl (cA 1, 122, .inl m_cworld))] [.ref h0, .int p0]) (vp_Si (fun r => 0 ≤ r.toInt ∧ r.toInt ≤ 1)) 0 0 (fun _ => False) := by
  refine Met.ofW (cc := cX12_blows) (maxL := 3) (ret := (some .boolean)) (by decide) rfl ?_
  intro p e s m args below meth c s₁ B hml hv
  obtain ⟨rfl, hP, hKN⟩ := hv
  have hx := B.exec
  have hb := B.bytes
  have hr := B.returns
  have hts : ∀ w ∈ TB, w.before _ s = true := fun w h => atoms_spec B.pre w (List.mem_cons_of_mem _ h)
  have hown : s.vm.findClass RX12 = some m.cls := findClass_of_methodNamed B.named
  have hlocks := B.notSynchronized
  have hl := lv_entry ([.ref h0, .int p0]) (n := 3) (Nat.le_of_ble_eq_true rfl)
  rw [lg_entry_eq]
  generalize (lg_sl ([.ref h0, .int p0]) ++ List.replicate (3 - (lg_sl ([.ref h0, .int p0])).length) Slot.unset).toArray = ls at hl ⊢
  have hl : lv_has ls 3 [(0, .ref h0), (1, .int p0)] := hl
  refine lv_iconst (v := 0) hx hb dX12_blows_0 (by decide) ?_
  refine lv_istore_n (lv' := [(2, .int 0), (0, .ref h0), (1, .int p0)]) hx hb dX12_blows_1 rfl hl (by decide) rfl (fun ls hl => ?_)
  refine loopW (σ := Int32) (fun _ => []) (fun L2_141 H locs ls => (0 ≤ L2_141.toInt ∧ L2_141.toInt ≤ 4) ∧ H = s.heap ∧ locs = [] ∧ lv_has ls 3 [(2, .int L2_141), (0, .ref h0), (1, .int p0)]) (fun L2_141 => (2147483647 - L2_141.toInt).toNat) ?_ (0 : Int32) ⟨(by decide), rfl, rfl, hl⟩
  intro x_141 H locs ls hI_141 ih_141
  obtain ⟨L2_141, rfl⟩ : ∃ z, z = x_141 := ⟨_, rfl⟩
  obtain ⟨k0_141, rfl, rfl, hl⟩ := hI_141
  have hl : lv_has ls 3 [(2, .int L2_141), (0, .ref h0), (1, .int p0)] := hl
  refine lv_iload_n hx hb dX12_blows_2 rfl (lv_at hl 0 rfl) ?_
  refine lv_aload_n hx hb dX12_blows_3 rfl (lv_at hl 1 rfl) ?_
  refine va_get (D := D) (ci := 12) (v := .ref m_qworld) (C := RX12) (T := TX12) (N := 35) hx hb hts inX12 hown hKN.1 hP 0 rfl rfl 1 (by decide) (hts _ tw_1420) (fun _ h9 => h9) rfl dX12_blows_4 ?_
  refine lv_bipush (v := 6) hx hb dX12_blows_7 (by decide) ?_
  refine va_iald hx hb hKN.1 hP 1 1 rfl rfl (by unfold vp_in; decide) dX12_blows_9 ?_
  refine W.eq (g2 := F0 m 10 ls [.int (m_cworld 6), .int L2_141]) rfl ?_
  have k_142 := a_m_cworld_0.1.1.2.2.2.2.2.1 (6) (by decide) (by decide)
  refine lv_icmp_ge (tgt := 55) hx hb dX12_blows_10 (by decide) (fun c_143 => ?_) (fun c_143 => ?_)
  · skip
    have k_144 := kk_le rfl rfl c_143
    refine lv_iconst (v := 0) hx hb dX12_blows_55 (by decide) ?_
    exact W.zret (v := 0) hx hb hr (by decide) (fun t ht hW => ⟨0, rfl, (show 0 ≤ (0 : Int32).toInt ∧ (0 : Int32).toInt ≤ 1 from by decide), ht⟩) (fun _ h => by cases h) dX12_blows_56
  · skip
    have k_145 := kk_nle rfl rfl c_143
    refine lv_iload_n hx hb dX12_blows_13 rfl (lv_at hl 2 rfl) ?_
    obtain ⟨x_146, ex_146⟩ : ∃ y, p0.toInt64 = y := ⟨_, rfl⟩
    refine lv_i2l (v := x_146) hx hb dX12_blows_14 ex_146 ?_
    have k_147 := tt_i2l ex_146
    refine lv_aload_n hx hb dX12_blows_15 rfl (lv_at hl 1 rfl) ?_
    refine va_get (D := D) (ci := 12) (v := .ref m_qworld) (C := RX12) (T := TX12) (N := 35) hx hb hts inX12 hown hKN.1 hP 0 rfl rfl 1 (by decide) (hts _ tw_1420) (fun _ h9 => h9) rfl dX12_blows_16 ?_
    refine lv_bipush (v := 54) hx hb dX12_blows_19 (by decide) ?_
    refine lv_iconst (v := 2) hx hb dX12_blows_21 (by decide) ?_
    refine lv_iload_n hx hb dX12_blows_22 rfl (lv_at hl 0 rfl) ?_
    refine lv_imul hx hb dX12_blows_23 ?_
    refine lv_topi (fun x_148 ex_148 => ?_)
    have k_149 := ar_mul zi_2 rfl ex_148 (by omega) (by omega)
    refine lv_iadd hx hb dX12_blows_24 ?_
    refine lv_topi (fun x_150 ex_150 => ?_)
    have k_151 := ar_add zi_54 rfl ex_150 (by omega) (by omega)
    refine va_iald hx hb hKN.1 hP 1 1 rfl rfl (vp_in_iff.mpr ⟨by omega, by omega⟩) dX12_blows_25 ?_
    refine lv_topi (fun x_152 ex_152 => ?_)
    have k_153c : x_150.toNatClampNeg = x_150.toInt.toNat := rfl
    have k_153 := a_m_cworld_0.1.1.2.2.2.2.2.2.2.2.2.2.1 (x_150.toNatClampNeg) (by omega) (by omega)
    rw [← ex_152] at k_153
    obtain ⟨x_154, ex_154⟩ : ∃ y, x_152.toInt64 = y := ⟨_, rfl⟩
    refine lv_i2l (v := x_154) hx hb dX12_blows_26 ex_154 ?_
    have k_155 := tt_i2l ex_154
    refine lv_aload_n hx hb dX12_blows_27 rfl (lv_at hl 1 rfl) ?_
    refine va_get (D := D) (ci := 12) (v := .ref m_qworld) (C := RX12) (T := TX12) (N := 35) hx hb hts inX12 hown hKN.1 hP 0 rfl rfl 1 (by decide) (hts _ tw_1420) (fun _ h9 => h9) rfl dX12_blows_28 ?_
    refine lv_bipush (v := 54) hx hb dX12_blows_31 (by decide) ?_
    refine lv_iconst (v := 2) hx hb dX12_blows_33 (by decide) ?_
    refine lv_iload_n hx hb dX12_blows_34 rfl (lv_at hl 0 rfl) ?_
    refine lv_imul hx hb dX12_blows_35 ?_
    refine lv_topi (fun x_156 ex_156 => ?_)
    obtain rfl : x_148 = x_156 := ex_148.trans ex_156.symm
    refine lv_iadd hx hb dX12_blows_36 ?_
    refine lv_topi (fun x_157 ex_157 => ?_)
    obtain rfl : x_150 = x_157 := ex_150.trans ex_157.symm
    refine lv_iconst (v := 1) hx hb dX12_blows_37 (by decide) ?_
    refine lv_iadd hx hb dX12_blows_38 ?_
    refine lv_topi (fun x_158 ex_158 => ?_)
    have k_159 := ar_add rfl zi_1 ex_158 (by omega) (by omega)
    refine va_iald hx hb hKN.1 hP 1 1 rfl rfl (vp_in_iff.mpr ⟨by omega, by omega⟩) dX12_blows_39 ?_
    refine lv_topi (fun x_160 ex_160 => ?_)
    have k_161c : x_158.toNatClampNeg = x_158.toInt.toNat := rfl
    have k_161 := a_m_cworld_0.1.1.2.2.2.2.2.2.2.2.2.2.1 (x_158.toNatClampNeg) (by omega) (by omega)
    rw [← ex_160] at k_161
    obtain ⟨x_162, ex_162⟩ : ∃ y, x_160.toInt64 = y := ⟨_, rfl⟩
    refine lv_i2l (v := x_162) hx hb dX12_blows_40 ex_162 ?_
    have k_163 := tt_i2l ex_162
    refine cpSi (rest := []) ⟨hx, hb, hml, hown, hts⟩ hKN (hP.sub (ws' := []) [] rfl) (g_X12_in l D cA x_146 x_154 x_162) (tb_S tw_1530 tw_1531 tw_114 tw_1532) hdX12_in ⟨rfl, rfl, Nat.le_of_ble_eq_true rfl, Nat.le_of_ble_eq_true rfl⟩ ⟨Nat.le_of_ble_eq_true rfl, Nat.le_of_ble_eq_true rfl⟩ rfl hl.1 rfl (Nat.le_of_ble_eq_true rfl) dX12_blows_41 (fun r_164 hr_164 => ?_)
    rcases hr_164 with ⟨k_164_0_0, k_164_0_1, rfl⟩ | ⟨k_164_1_0, rfl⟩
    · skip
      refine lv_if_eq (tgt := 49) hx hb dX12_blows_44 (by decide) (fun c_165 => absurd c_165 (by decide)) (fun c_165 => ?_)
      refine lv_iconst (v := 1) hx hb dX12_blows_47 (by decide) ?_
      exact W.zret (v := 1) hx hb hr (by decide) (fun t ht hW => ⟨1, rfl, (show 0 ≤ (1 : Int32).toInt ∧ (1 : Int32).toInt ≤ 1 from by decide), ht⟩) (fun _ h => by cases h) dX12_blows_48
    · skip
      refine lv_if_eq (tgt := 49) hx hb dX12_blows_44 (by decide) (fun c_166 => ?_) (fun c_166 => absurd (by decide) c_166)
      obtain ⟨x_167, ex_167⟩ : ∃ y : Int32, L2_141 + Int32.ofInt 1 = y := ⟨_, rfl⟩
      have k_168 := ar_add (b := 1) rfl zi_1 ex_167.symm (by omega) (by omega)
      refine lv_iinc (v := x_167) (lv' := [(2, .int x_167), (0, .ref h0), (1, .int p0)]) hx hb dX12_blows_49 hl (k := 0) rfl ex_167 (by decide) rfl (fun ls hl => ?_)
      refine lv_goto (tgt := 2) hx hb dX12_blows_52 (by decide) ?_
      exact ih_141 (x_167) _ _ _ ⟨(show 0 ≤ x_167.toInt ∧ x_167.toInt ≤ 4 from by omega), rfl, rfl, lv_sub hl [0, 1, 2] rfl⟩ (by show (2147483647 - x_167.toInt).toNat < (2147483647 - L2_141.toInt).toNat; omega)
set_option maxHeartbeats 8000000 in
set_option maxRecDepth 100000 in
theorem g_X12_isOut (l : Launch) (D : va_G) (cA : Nat → ClassId) (h0 : Nat) (m_thrown : Int32) (m_qworld : Nat) (m_qimages : Nat) (m_qhasImage : Nat) (m_qtape : Nat) (m_taped : Int32) (m_qfive : Nat) (m_size : Int32) (m_at : Int32) (m_from : Int32) (m_token : Int32) (m_value : Int32) (m_faultKind : Int32) (m_faultPlace : Int32) (m_qfresh : Nat) (m_startOne : Int32) (m_startOther : Int32) (m_latest : Int32) (m_leftBeats : Int32) (m_signed : Int32) (m_metMany : Int32) (m_qsums : Nat) (m_qpairs : Nat) (m_qgoesWith : Nat) (m_qsaid : Nat) (m_saidMany : Int32) (m_firstWait : Int32) (m_qfirstOrder : Nat) (m_bundleFirst : Int32) (m_qtiredBy : Nat) (m_tiredMany : Int32) (m_qmany : Nat) (m_qwidth : Nat) (m_qnumbers : Nat) (m_qmoving : Nat) (m_cworld : Nat → Int32) (p0 : Int32) (p1 : Int32) (h_m_taped : 0 ≤ (m_taped : Int32).toInt ∧ (m_taped : Int32).toInt ≤ 800) (h_m_size : 0 ≤ (m_size : Int32).toInt ∧ (m_size : Int32).toInt ≤ 800) (h_m_at : 0 ≤ (m_at : Int32).toInt ∧ (m_at : Int32).toInt ≤ 800) (h_m_from : 0 ≤ (m_from : Int32).toInt ∧ (m_from : Int32).toInt ≤ 800) (h_m_saidMany : 0 ≤ (m_saidMany : Int32).toInt ∧ (m_saidMany : Int32).toInt ≤ 60) (h_m_tiredMany : 0 ≤ (m_tiredMany : Int32).toInt ∧ (m_tiredMany : Int32).toInt ≤ 240) (a_m_cworld_0 : WI m_cworld) (h_far : 1 ≤ (m_cworld 0).toInt ∧ 1 ≤ (m_cworld 1).toInt) : Met l yX12_isOut (Cond.code yX12_isOut cX12_isOut 3 (some .boolean) :: TB) (rmd 0 0 0) (PP D cA [(h0, .inr (12, [.int m_thrown, .ref m_qworld, .ref m_qimages, .ref m_qhasImage, .ref m_qtape, .int m_taped, .ref m_qfive, .int m_size, .int m_at, .int m_from, .int m_token, .int m_value, .int m_faultKind, .int m_faultPlace, .ref m_qfresh, .int m_startOne, .int m_startOther, .int m_latest, .int m_leftBeats, .int m_signed, .int m_metMany, .ref m_qsums, .ref m_qpairs, .ref m_qgoesWith, .ref m_qsaid, .int m_saidMany, .int m_firstWait, .ref m_qfirstOrder, .int m_bundleFirst, .ref m_qtiredBy, .int m_tiredMany, .ref m_qmany, .ref m_qwidth, .ref m_qnumbers, .ref m_qmoving])), (m_qworld, .inl (cA 1, 122, .inl m_cworld))] [.ref h0, .int p0, .int p1]) (vp_Si (fun r => 0 ≤ r.toInt ∧ r.toInt ≤ 1)) 0 0 (fun _ => False) := by
  refine Met.ofW (cc := cX12_isOut) (maxL := 3) (ret := (some .boolean)) (by decide) rfl ?_
  intro p e s m args below meth c s₁ B hml hv
  obtain ⟨rfl, hP, hKN⟩ := hv
  have hx := B.exec
  have hb := B.bytes
  have hr := B.returns
  have hts : ∀ w ∈ TB, w.before _ s = true := fun w h => atoms_spec B.pre w (List.mem_cons_of_mem _ h)
  have hown : s.vm.findClass RX12 = some m.cls := findClass_of_methodNamed B.named
  have hlocks := B.notSynchronized
  have hl := lv_entry ([.ref h0, .int p0, .int p1]) (n := 3) (Nat.le_of_ble_eq_true rfl)
  rw [lg_entry_eq]
  generalize (lg_sl ([.ref h0, .int p0, .int p1]) ++ List.replicate (3 - (lg_sl ([.ref h0, .int p0, .int p1])).length) Slot.unset).toArray = ls at hl ⊢
  have hl : lv_has ls 3 [(0, .ref h0), (1, .int p0), (2, .int p1)] := hl
  have hf_0 := a_m_cworld_0.1.1.1 0 (by decide) (by decide)
  have hf_1 := a_m_cworld_0.1.1.1 1 (by decide) (by decide)
  refine lv_iload_n hx hb dX12_isOut_0 rfl (lv_at hl 2 rfl) ?_
  refine lv_iload_n hx hb dX12_isOut_1 rfl (lv_at hl 1 rfl) ?_
  refine lv_if_ne (tgt := 12) hx hb dX12_isOut_2 (by decide) (fun c_1 => ?_) (fun c_1 => ?_)
  · skip
    have b_3 := i32_bd p0
    have k_2 := kk_ne rfl zi_0 c_1
    refine lv_aload_n hx hb dX12_isOut_12 rfl (lv_at hl 0 rfl) ?_
    refine va_get (D := D) (ci := 12) (v := .int m_startOther) (C := RX12) (T := TX12) (N := 35) hx hb hts inX12 hown hKN.1 hP 0 rfl rfl 16 (by decide) (hts _ tw_1435) (fun _ h9 => h9) rfl dX12_isOut_13 ?_
    refine lv_isub hx hb dX12_isOut_16 ?_
    refine lv_topi (fun x_4 ex_4 => ?_)
    refine lv_iload_n hx hb dX12_isOut_17 rfl (lv_at hl 1 rfl) ?_
    refine lv_if_ne (tgt := 30) hx hb dX12_isOut_18 (by decide) (fun c_6 => ?_) (fun c_6 => ?_)
    · skip
      have k_7 := kk_ne rfl zi_0 c_6
      refine lv_aload_n hx hb dX12_isOut_30 rfl (lv_at hl 0 rfl) ?_
      refine va_get (D := D) (ci := 12) (v := .ref m_qworld) (C := RX12) (T := TX12) (N := 35) hx hb hts inX12 hown hKN.1 hP 0 rfl rfl 1 (by decide) (hts _ tw_1420) (fun _ h9 => h9) rfl dX12_isOut_31 ?_
      refine lv_iconst (v := 1) hx hb dX12_isOut_34 (by decide) ?_
      refine va_iald hx hb hKN.1 hP 1 1 rfl rfl (by unfold vp_in; decide) dX12_isOut_35 ?_
      refine W.eq (g2 := F0 m 36 ls [.int (m_cworld 1), .int x_4]) rfl ?_
      refine lv_irem hx hb dX12_isOut_36 (nz_i (by omega)) ?_
      refine lv_topi (fun x_8 ex_8 => ?_)
      refine lv_if_ne (tgt := 44) hx hb dX12_isOut_37 (by decide) (fun c_10 => ?_) (fun c_10 => ?_)
      · skip
        have b_12 := i32_bd x_8
        have k_11 := kk_ne rfl zi_0 c_10
        refine lv_iconst (v := 0) hx hb dX12_isOut_44 (by decide) ?_
        exact W.zret (v := 0) hx hb hr (by decide) (fun t ht hW => ⟨0, rfl, (show 0 ≤ (0 : Int32).toInt ∧ (0 : Int32).toInt ≤ 1 from by decide), ht⟩) (fun _ h => by cases h) dX12_isOut_45
      · skip
        have b_14 := i32_bd x_8
        have k_13 := kk_eq rfl zi_0 c_10
        refine lv_iconst (v := 1) hx hb dX12_isOut_40 (by decide) ?_
        refine lv_goto (tgt := 45) hx hb dX12_isOut_41 (by decide) ?_
        exact W.zret (v := 1) hx hb hr (by decide) (fun t ht hW => ⟨1, rfl, (show 0 ≤ (1 : Int32).toInt ∧ (1 : Int32).toInt ≤ 1 from by decide), ht⟩) (fun _ h => by cases h) dX12_isOut_45
    · skip
      have k_15 := kk_eq rfl zi_0 c_6
      exfalso; omega
  · skip
    have b_17 := i32_bd p0
    have k_16 := kk_eq rfl zi_0 c_1
    refine lv_aload_n hx hb dX12_isOut_5 rfl (lv_at hl 0 rfl) ?_
    refine va_get (D := D) (ci := 12) (v := .int m_startOne) (C := RX12) (T := TX12) (N := 35) hx hb hts inX12 hown hKN.1 hP 0 rfl rfl 15 (by decide) (hts _ tw_1434) (fun _ h9 => h9) rfl dX12_isOut_6 ?_
    refine lv_goto (tgt := 16) hx hb dX12_isOut_9 (by decide) ?_
    refine lv_isub hx hb dX12_isOut_16 ?_
    refine lv_topi (fun x_18 ex_18 => ?_)
    refine lv_iload_n hx hb dX12_isOut_17 rfl (lv_at hl 1 rfl) ?_
    refine lv_if_ne (tgt := 30) hx hb dX12_isOut_18 (by decide) (fun c_20 => ?_) (fun c_20 => ?_)
    · skip
      have k_21 := kk_ne rfl zi_0 c_20
      exfalso; omega
    · skip
      have k_22 := kk_eq rfl zi_0 c_20
      refine lv_aload_n hx hb dX12_isOut_21 rfl (lv_at hl 0 rfl) ?_
      refine va_get (D := D) (ci := 12) (v := .ref m_qworld) (C := RX12) (T := TX12) (N := 35) hx hb hts inX12 hown hKN.1 hP 0 rfl rfl 1 (by decide) (hts _ tw_1420) (fun _ h9 => h9) rfl dX12_isOut_22 ?_
      refine lv_iconst (v := 0) hx hb dX12_isOut_25 (by decide) ?_
      refine va_iald hx hb hKN.1 hP 1 1 rfl rfl (by unfold vp_in; decide) dX12_isOut_26 ?_
      refine W.eq (g2 := F0 m 27 ls [.int (m_cworld 0), .int x_18]) rfl ?_
      refine lv_goto (tgt := 36) hx hb dX12_isOut_27 (by decide) ?_
      refine lv_irem hx hb dX12_isOut_36 (nz_i (by omega)) ?_
      refine lv_topi (fun x_23 ex_23 => ?_)
      refine lv_if_ne (tgt := 44) hx hb dX12_isOut_37 (by decide) (fun c_25 => ?_) (fun c_25 => ?_)
      · skip
        have b_27 := i32_bd x_23
        have k_26 := kk_ne rfl zi_0 c_25
        refine lv_iconst (v := 0) hx hb dX12_isOut_44 (by decide) ?_
        exact W.zret (v := 0) hx hb hr (by decide) (fun t ht hW => ⟨0, rfl, (show 0 ≤ (0 : Int32).toInt ∧ (0 : Int32).toInt ≤ 1 from by decide), ht⟩) (fun _ h => by cases h) dX12_isOut_45
      · skip
        have b_29 := i32_bd x_23
        have k_28 := kk_eq rfl zi_0 c_25
        refine lv_iconst (v := 1) hx hb dX12_isOut_40 (by decide) ?_
        refine lv_goto (tgt := 45) hx hb dX12_isOut_41 (by decide) ?_
        exact W.zret (v := 1) hx hb hr (by decide) (fun t ht hW => ⟨1, rfl, (show 0 ≤ (1 : Int32).toInt ∧ (1 : Int32).toInt ≤ 1 from by decide), ht⟩) (fun _ h => by cases h) dX12_isOut_45
set_option maxHeartbeats 8000000 in
set_option maxRecDepth 100000 in
theorem g_X12_areOut (l : Launch) (D : va_G) (cA : Nat → ClassId) (h0 : Nat) (m_thrown : Int32) (m_qworld : Nat) (m_qimages : Nat) (m_qhasImage : Nat) (m_qtape : Nat) (m_taped : Int32) (m_qfive : Nat) (m_size : Int32) (m_at : Int32) (m_from : Int32) (m_token : Int32) (m_value : Int32) (m_faultKind : Int32) (m_faultPlace : Int32) (m_qfresh : Nat) (m_startOne : Int32) (m_startOther : Int32) (m_latest : Int32) (m_leftBeats : Int32) (m_signed : Int32) (m_metMany : Int32) (m_qsums : Nat) (m_qpairs : Nat) (m_qgoesWith : Nat) (m_qsaid : Nat) (m_saidMany : Int32) (m_firstWait : Int32) (m_qfirstOrder : Nat) (m_bundleFirst : Int32) (m_qtiredBy : Nat) (m_tiredMany : Int32) (m_qmany : Nat) (m_qwidth : Nat) (m_qnumbers : Nat) (m_qmoving : Nat) (m_cworld : Nat → Int32) (p0 : Int32) (h_m_taped : 0 ≤ (m_taped : Int32).toInt ∧ (m_taped : Int32).toInt ≤ 800) (h_m_size : 0 ≤ (m_size : Int32).toInt ∧ (m_size : Int32).toInt ≤ 800) (h_m_at : 0 ≤ (m_at : Int32).toInt ∧ (m_at : Int32).toInt ≤ 800) (h_m_from : 0 ≤ (m_from : Int32).toInt ∧ (m_from : Int32).toInt ≤ 800) (h_m_saidMany : 0 ≤ (m_saidMany : Int32).toInt ∧ (m_saidMany : Int32).toInt ≤ 60) (h_m_tiredMany : 0 ≤ (m_tiredMany : Int32).toInt ∧ (m_tiredMany : Int32).toInt ≤ 240) (a_m_cworld_0 : WI m_cworld) (h_far : 1 ≤ (m_cworld 0).toInt ∧ 1 ≤ (m_cworld 1).toInt) : Met l yX12_areOut (Cond.code yX12_areOut cX12_areOut 2 (some .boolean) :: TB) (rmd 1 0 0) (PP D cA [(h0, .inr (12, [.int m_thrown, .ref m_qworld, .ref m_qimages, .ref m_qhasImage, .ref m_qtape, .int m_taped, .ref m_qfive, .int m_size, .int m_at, .int m_from, .int m_token, .int m_value, .int m_faultKind, .int m_faultPlace, .ref m_qfresh, .int m_startOne, .int m_startOther, .int m_latest, .int m_leftBeats, .int m_signed, .int m_metMany, .ref m_qsums, .ref m_qpairs, .ref m_qgoesWith, .ref m_qsaid, .int m_saidMany, .int m_firstWait, .ref m_qfirstOrder, .int m_bundleFirst, .ref m_qtiredBy, .int m_tiredMany, .ref m_qmany, .ref m_qwidth, .ref m_qnumbers, .ref m_qmoving])), (m_qworld, .inl (cA 1, 122, .inl m_cworld))] [.ref h0, .int p0]) (vp_Si (fun r => 0 ≤ r.toInt ∧ r.toInt ≤ 1)) 0 0 (fun _ => False) := by
  refine Met.ofW (cc := cX12_areOut) (maxL := 2) (ret := (some .boolean)) (by decide) rfl ?_
  intro p e s m args below meth c s₁ B hml hv
  obtain ⟨rfl, hP, hKN⟩ := hv
  have hx := B.exec
  have hb := B.bytes
  have hr := B.returns
  have hts : ∀ w ∈ TB, w.before _ s = true := fun w h => atoms_spec B.pre w (List.mem_cons_of_mem _ h)
  have hown : s.vm.findClass RX12 = some m.cls := findClass_of_methodNamed B.named
  have hlocks := B.notSynchronized
  have hl := lv_entry ([.ref h0, .int p0]) (n := 2) (Nat.le_of_ble_eq_true rfl)
  rw [lg_entry_eq]
  generalize (lg_sl ([.ref h0, .int p0]) ++ List.replicate (2 - (lg_sl ([.ref h0, .int p0])).length) Slot.unset).toArray = ls at hl ⊢
  have hl : lv_has ls 2 [(0, .ref h0), (1, .int p0)] := hl
  have hf_0 := a_m_cworld_0.1.1.1 0 (by decide) (by decide)
  have hf_1 := a_m_cworld_0.1.1.1 1 (by decide) (by decide)
  refine lv_aload_n hx hb dX12_areOut_0 rfl (lv_at hl 0 rfl) ?_
  refine lv_iconst (v := 0) hx hb dX12_areOut_1 (by decide) ?_
  refine lv_iload_n hx hb dX12_areOut_2 rfl (lv_at hl 1 rfl) ?_
  have z_1 := zi_0
  refine cpVi (rest := []) ⟨hx, hb, hml, hown, hts⟩ hKN (hP.sub (ws' := [(h0, .inr (12, [.int m_thrown, .ref m_qworld, .ref m_qimages, .ref m_qhasImage, .ref m_qtape, .int m_taped, .ref m_qfive, .int m_size, .int m_at, .int m_from, .int m_token, .int m_value, .int m_faultKind, .int m_faultPlace, .ref m_qfresh, .int m_startOne, .int m_startOther, .int m_latest, .int m_leftBeats, .int m_signed, .int m_metMany, .ref m_qsums, .ref m_qpairs, .ref m_qgoesWith, .ref m_qsaid, .int m_saidMany, .int m_firstWait, .ref m_qfirstOrder, .int m_bundleFirst, .ref m_qtiredBy, .int m_tiredMany, .ref m_qmany, .ref m_qwidth, .ref m_qnumbers, .ref m_qmoving])), (m_qworld, .inl (cA 1, 122, .inl m_cworld))]) [0, 1] rfl) (g_X12_isOut l D cA h0 m_thrown m_qworld m_qimages m_qhasImage m_qtape m_taped m_qfive m_size m_at m_from m_token m_value m_faultKind m_faultPlace m_qfresh m_startOne m_startOther m_latest m_leftBeats m_signed m_metMany m_qsums m_qpairs m_qgoesWith m_qsaid m_saidMany m_firstWait m_qfirstOrder m_bundleFirst m_qtiredBy m_tiredMany m_qmany m_qwidth m_qnumbers m_qmoving m_cworld 0 p0 (by omega) (by omega) (by omega) (by omega) (by omega) (by omega) a_m_cworld_0 ⟨by omega, by omega⟩) (tb_V tw_1692 tw_1694 tw_61 tw_114 tw_1695) hdX12_isOut ⟨rfl, rfl, Nat.le_of_ble_eq_true rfl, Nat.le_of_ble_eq_true rfl⟩ ⟨Nat.le_of_ble_eq_true rfl, Nat.le_of_ble_eq_true rfl⟩ rfl rfl rfl hl.1 rfl (Nat.le_of_ble_eq_true rfl) dX12_areOut_3 (fun r_2 hr_2 => ?_)
  refine lv_if_eq (tgt := 22) hx hb dX12_areOut_6 (by decide) (fun c_3 => ?_) (fun c_3 => ?_)
  · skip
    have k_4 := kk_eq rfl zi_0 c_3
    refine lv_iconst (v := 0) hx hb dX12_areOut_22 (by decide) ?_
    exact W.zret (v := 0) hx hb hr (by decide) (fun t ht hW => ⟨0, rfl, (show 0 ≤ (0 : Int32).toInt ∧ (0 : Int32).toInt ≤ 1 from by decide), ht⟩) (fun _ h => by cases h) dX12_areOut_23
  · skip
    have k_5 := kk_ne rfl zi_0 c_3
    refine lv_aload_n hx hb dX12_areOut_9 rfl (lv_at hl 0 rfl) ?_
    refine lv_iconst (v := 1) hx hb dX12_areOut_10 (by decide) ?_
    refine lv_iload_n hx hb dX12_areOut_11 rfl (lv_at hl 1 rfl) ?_
    have z_6 := zi_1
    refine cpVi (rest := []) ⟨hx, hb, hml, hown, hts⟩ hKN (hP.sub (ws' := [(h0, .inr (12, [.int m_thrown, .ref m_qworld, .ref m_qimages, .ref m_qhasImage, .ref m_qtape, .int m_taped, .ref m_qfive, .int m_size, .int m_at, .int m_from, .int m_token, .int m_value, .int m_faultKind, .int m_faultPlace, .ref m_qfresh, .int m_startOne, .int m_startOther, .int m_latest, .int m_leftBeats, .int m_signed, .int m_metMany, .ref m_qsums, .ref m_qpairs, .ref m_qgoesWith, .ref m_qsaid, .int m_saidMany, .int m_firstWait, .ref m_qfirstOrder, .int m_bundleFirst, .ref m_qtiredBy, .int m_tiredMany, .ref m_qmany, .ref m_qwidth, .ref m_qnumbers, .ref m_qmoving])), (m_qworld, .inl (cA 1, 122, .inl m_cworld))]) [0, 1] rfl) (g_X12_isOut l D cA h0 m_thrown m_qworld m_qimages m_qhasImage m_qtape m_taped m_qfive m_size m_at m_from m_token m_value m_faultKind m_faultPlace m_qfresh m_startOne m_startOther m_latest m_leftBeats m_signed m_metMany m_qsums m_qpairs m_qgoesWith m_qsaid m_saidMany m_firstWait m_qfirstOrder m_bundleFirst m_qtiredBy m_tiredMany m_qmany m_qwidth m_qnumbers m_qmoving m_cworld 1 p0 (by omega) (by omega) (by omega) (by omega) (by omega) (by omega) a_m_cworld_0 ⟨by omega, by omega⟩) (tb_V tw_1692 tw_1694 tw_61 tw_114 tw_1695) hdX12_isOut ⟨rfl, rfl, Nat.le_of_ble_eq_true rfl, Nat.le_of_ble_eq_true rfl⟩ ⟨Nat.le_of_ble_eq_true rfl, Nat.le_of_ble_eq_true rfl⟩ rfl rfl rfl hl.1 rfl (Nat.le_of_ble_eq_true rfl) dX12_areOut_12 (fun r_7 hr_7 => ?_)
    refine lv_if_eq (tgt := 22) hx hb dX12_areOut_15 (by decide) (fun c_8 => ?_) (fun c_8 => ?_)
    · skip
      have k_9 := kk_eq rfl zi_0 c_8
      refine lv_iconst (v := 0) hx hb dX12_areOut_22 (by decide) ?_
      exact W.zret (v := 0) hx hb hr (by decide) (fun t ht hW => ⟨0, rfl, (show 0 ≤ (0 : Int32).toInt ∧ (0 : Int32).toInt ≤ 1 from by decide), ht⟩) (fun _ h => by cases h) dX12_areOut_23
    · skip
      have k_10 := kk_ne rfl zi_0 c_8
      refine lv_iconst (v := 1) hx hb dX12_areOut_18 (by decide) ?_
      refine lv_goto (tgt := 23) hx hb dX12_areOut_19 (by decide) ?_
      exact W.zret (v := 1) hx hb hr (by decide) (fun t ht hW => ⟨1, rfl, (show 0 ≤ (1 : Int32).toInt ∧ (1 : Int32).toInt ≤ 1 from by decide), ht⟩) (fun _ h => by cases h) dX12_areOut_23
set_option maxHeartbeats 8000000 in
set_option maxRecDepth 100000 in
theorem g_X12_isMeeting (l : Launch) (D : va_G) (cA : Nat → ClassId) (h0 : Nat) (m_thrown : Int32) (m_qworld : Nat) (m_qimages : Nat) (m_qhasImage : Nat) (m_qtape : Nat) (m_taped : Int32) (m_qfive : Nat) (m_size : Int32) (m_at : Int32) (m_from : Int32) (m_token : Int32) (m_value : Int32) (m_faultKind : Int32) (m_faultPlace : Int32) (m_qfresh : Nat) (m_startOne : Int32) (m_startOther : Int32) (m_latest : Int32) (m_leftBeats : Int32) (m_signed : Int32) (m_metMany : Int32) (m_qsums : Nat) (m_qpairs : Nat) (m_qgoesWith : Nat) (m_qsaid : Nat) (m_saidMany : Int32) (m_firstWait : Int32) (m_qfirstOrder : Nat) (m_bundleFirst : Int32) (m_qtiredBy : Nat) (m_tiredMany : Int32) (m_qmany : Nat) (m_qwidth : Nat) (m_qnumbers : Nat) (m_qmoving : Nat) (m_cworld : Nat → Int32) (p0 : Int32) (h_m_taped : 0 ≤ (m_taped : Int32).toInt ∧ (m_taped : Int32).toInt ≤ 800) (h_m_size : 0 ≤ (m_size : Int32).toInt ∧ (m_size : Int32).toInt ≤ 800) (h_m_at : 0 ≤ (m_at : Int32).toInt ∧ (m_at : Int32).toInt ≤ 800) (h_m_from : 0 ≤ (m_from : Int32).toInt ∧ (m_from : Int32).toInt ≤ 800) (h_m_saidMany : 0 ≤ (m_saidMany : Int32).toInt ∧ (m_saidMany : Int32).toInt ≤ 60) (h_m_tiredMany : 0 ≤ (m_tiredMany : Int32).toInt ∧ (m_tiredMany : Int32).toInt ≤ 240) (a_m_cworld_0 : WI m_cworld) (h_far : 1 ≤ (m_cworld 0).toInt ∧ 1 ≤ (m_cworld 1).toInt) : Met l yX12_isMeeting (Cond.code yX12_isMeeting cX12_isMeeting 2 (some .boolean) :: TB) (rmd 2 0 0) (PP D cA [(h0, .inr (12, [.int m_thrown, .ref m_qworld, .ref m_qimages, .ref m_qhasImage, .ref m_qtape, .int m_taped, .ref m_qfive, .int m_size, .int m_at, .int m_from, .int m_token, .int m_value, .int m_faultKind, .int m_faultPlace, .ref m_qfresh, .int m_startOne, .int m_startOther, .int m_latest, .int m_leftBeats, .int m_signed, .int m_metMany, .ref m_qsums, .ref m_qpairs, .ref m_qgoesWith, .ref m_qsaid, .int m_saidMany, .int m_firstWait, .ref m_qfirstOrder, .int m_bundleFirst, .ref m_qtiredBy, .int m_tiredMany, .ref m_qmany, .ref m_qwidth, .ref m_qnumbers, .ref m_qmoving])), (m_qworld, .inl (cA 1, 122, .inl m_cworld))] [.ref h0, .int p0]) (vp_Si (fun r => 0 ≤ r.toInt ∧ r.toInt ≤ 1)) 0 0 (fun _ => False) := by
  refine Met.ofW (cc := cX12_isMeeting) (maxL := 2) (ret := (some .boolean)) (by decide) rfl ?_
  intro p e s m args below meth c s₁ B hml hv
  obtain ⟨rfl, hP, hKN⟩ := hv
  have hx := B.exec
  have hb := B.bytes
  have hr := B.returns
  have hts : ∀ w ∈ TB, w.before _ s = true := fun w h => atoms_spec B.pre w (List.mem_cons_of_mem _ h)
  have hown : s.vm.findClass RX12 = some m.cls := findClass_of_methodNamed B.named
  have hlocks := B.notSynchronized
  have hl := lv_entry ([.ref h0, .int p0]) (n := 2) (Nat.le_of_ble_eq_true rfl)
  rw [lg_entry_eq]
  generalize (lg_sl ([.ref h0, .int p0]) ++ List.replicate (2 - (lg_sl ([.ref h0, .int p0])).length) Slot.unset).toArray = ls at hl ⊢
  have hl : lv_has ls 2 [(0, .ref h0), (1, .int p0)] := hl
  have hf_0 := a_m_cworld_0.1.1.1 0 (by decide) (by decide)
  have hf_1 := a_m_cworld_0.1.1.1 1 (by decide) (by decide)
  refine lv_aload_n hx hb dX12_isMeeting_0 rfl (lv_at hl 0 rfl) ?_
  refine lv_iload_n hx hb dX12_isMeeting_1 rfl (lv_at hl 1 rfl) ?_
  refine cpVi (rest := []) ⟨hx, hb, hml, hown, hts⟩ hKN (hP.sub (ws' := [(h0, .inr (12, [.int m_thrown, .ref m_qworld, .ref m_qimages, .ref m_qhasImage, .ref m_qtape, .int m_taped, .ref m_qfive, .int m_size, .int m_at, .int m_from, .int m_token, .int m_value, .int m_faultKind, .int m_faultPlace, .ref m_qfresh, .int m_startOne, .int m_startOther, .int m_latest, .int m_leftBeats, .int m_signed, .int m_metMany, .ref m_qsums, .ref m_qpairs, .ref m_qgoesWith, .ref m_qsaid, .int m_saidMany, .int m_firstWait, .ref m_qfirstOrder, .int m_bundleFirst, .ref m_qtiredBy, .int m_tiredMany, .ref m_qmany, .ref m_qwidth, .ref m_qnumbers, .ref m_qmoving])), (m_qworld, .inl (cA 1, 122, .inl m_cworld))]) [0, 1] rfl) (g_X12_areOut l D cA h0 m_thrown m_qworld m_qimages m_qhasImage m_qtape m_taped m_qfive m_size m_at m_from m_token m_value m_faultKind m_faultPlace m_qfresh m_startOne m_startOther m_latest m_leftBeats m_signed m_metMany m_qsums m_qpairs m_qgoesWith m_qsaid m_saidMany m_firstWait m_qfirstOrder m_bundleFirst m_qtiredBy m_tiredMany m_qmany m_qwidth m_qnumbers m_qmoving m_cworld p0 (by omega) (by omega) (by omega) (by omega) (by omega) (by omega) a_m_cworld_0 ⟨by omega, by omega⟩) (tb_V tw_1688 tw_1690 tw_60 tw_114 tw_1691) hdX12_areOut ⟨rfl, rfl, Nat.le_of_ble_eq_true rfl, Nat.le_of_ble_eq_true rfl⟩ ⟨Nat.le_of_ble_eq_true rfl, Nat.le_of_ble_eq_true rfl⟩ rfl rfl rfl hl.1 rfl (Nat.le_of_ble_eq_true rfl) dX12_isMeeting_2 (fun r_1 hr_1 => ?_)
  refine lv_if_eq (tgt := 20) hx hb dX12_isMeeting_5 (by decide) (fun c_2 => ?_) (fun c_2 => ?_)
  · skip
    have k_3 := kk_eq rfl zi_0 c_2
    refine lv_iconst (v := 0) hx hb dX12_isMeeting_20 (by decide) ?_
    exact W.zret (v := 0) hx hb hr (by decide) (fun t ht hW => ⟨0, rfl, (show 0 ≤ (0 : Int32).toInt ∧ (0 : Int32).toInt ≤ 1 from by decide), ht⟩) (fun _ h => by cases h) dX12_isMeeting_21
  · skip
    have k_4 := kk_ne rfl zi_0 c_2
    refine lv_aload_n hx hb dX12_isMeeting_8 rfl (lv_at hl 0 rfl) ?_
    refine lv_iload_n hx hb dX12_isMeeting_9 rfl (lv_at hl 1 rfl) ?_
    refine cpVi (rest := []) ⟨hx, hb, hml, hown, hts⟩ hKN (hP.sub (ws' := [(h0, .inr (12, [.int m_thrown, .ref m_qworld, .ref m_qimages, .ref m_qhasImage, .ref m_qtape, .int m_taped, .ref m_qfive, .int m_size, .int m_at, .int m_from, .int m_token, .int m_value, .int m_faultKind, .int m_faultPlace, .ref m_qfresh, .int m_startOne, .int m_startOther, .int m_latest, .int m_leftBeats, .int m_signed, .int m_metMany, .ref m_qsums, .ref m_qpairs, .ref m_qgoesWith, .ref m_qsaid, .int m_saidMany, .int m_firstWait, .ref m_qfirstOrder, .int m_bundleFirst, .ref m_qtiredBy, .int m_tiredMany, .ref m_qmany, .ref m_qwidth, .ref m_qnumbers, .ref m_qmoving])), (m_qworld, .inl (cA 1, 122, .inl m_cworld))]) [0, 1] rfl) (g_X12_blows l D cA h0 m_thrown m_qworld m_qimages m_qhasImage m_qtape m_taped m_qfive m_size m_at m_from m_token m_value m_faultKind m_faultPlace m_qfresh m_startOne m_startOther m_latest m_leftBeats m_signed m_metMany m_qsums m_qpairs m_qgoesWith m_qsaid m_saidMany m_firstWait m_qfirstOrder m_bundleFirst m_qtiredBy m_tiredMany m_qmany m_qwidth m_qnumbers m_qmoving m_cworld p0 (by omega) (by omega) (by omega) (by omega) (by omega) (by omega) a_m_cworld_0) (tb_V tw_1696 tw_1698 tw_62 tw_114 tw_1699) hdX12_blows ⟨rfl, rfl, Nat.le_of_ble_eq_true rfl, Nat.le_of_ble_eq_true rfl⟩ ⟨Nat.le_of_ble_eq_true rfl, Nat.le_of_ble_eq_true rfl⟩ rfl rfl rfl hl.1 rfl (Nat.le_of_ble_eq_true rfl) dX12_isMeeting_10 (fun r_5 hr_5 => ?_)
    refine lv_if_ne (tgt := 20) hx hb dX12_isMeeting_13 (by decide) (fun c_6 => ?_) (fun c_6 => ?_)
    · skip
      have k_7 := kk_ne rfl zi_0 c_6
      refine lv_iconst (v := 0) hx hb dX12_isMeeting_20 (by decide) ?_
      exact W.zret (v := 0) hx hb hr (by decide) (fun t ht hW => ⟨0, rfl, (show 0 ≤ (0 : Int32).toInt ∧ (0 : Int32).toInt ≤ 1 from by decide), ht⟩) (fun _ h => by cases h) dX12_isMeeting_21
    · skip
      have k_8 := kk_eq rfl zi_0 c_6
      refine lv_iconst (v := 1) hx hb dX12_isMeeting_16 (by decide) ?_
      refine lv_goto (tgt := 21) hx hb dX12_isMeeting_17 (by decide) ?_
      exact W.zret (v := 1) hx hb hr (by decide) (fun t ht hW => ⟨1, rfl, (show 0 ≤ (1 : Int32).toInt ∧ (1 : Int32).toInt ≤ 1 from by decide), ht⟩) (fun _ h => by cases h) dX12_isMeeting_21
set_option maxHeartbeats 8000000 in
set_option maxRecDepth 100000 in
theorem g_X12_nextFrom (l : Launch) (D : va_G) (cA : Nat → ClassId) (h0 : Nat) (m_thrown : Int32) (m_qworld : Nat) (m_qimages : Nat) (m_qhasImage : Nat) (m_qtape : Nat) (m_taped : Int32) (m_qfive : Nat) (m_size : Int32) (m_at : Int32) (m_from : Int32) (m_token : Int32) (m_value : Int32) (m_faultKind : Int32) (m_faultPlace : Int32) (m_qfresh : Nat) (m_startOne : Int32) (m_startOther : Int32) (m_latest : Int32) (m_leftBeats : Int32) (m_signed : Int32) (m_metMany : Int32) (m_qsums : Nat) (m_qpairs : Nat) (m_qgoesWith : Nat) (m_qsaid : Nat) (m_saidMany : Int32) (m_firstWait : Int32) (m_qfirstOrder : Nat) (m_bundleFirst : Int32) (m_qtiredBy : Nat) (m_tiredMany : Int32) (m_qmany : Nat) (m_qwidth : Nat) (m_qnumbers : Nat) (m_qmoving : Nat) (m_cworld : Nat → Int32) (p0 : Int32) (h_m_taped : 0 ≤ (m_taped : Int32).toInt ∧ (m_taped : Int32).toInt ≤ 800) (h_m_size : 0 ≤ (m_size : Int32).toInt ∧ (m_size : Int32).toInt ≤ 800) (h_m_at : 0 ≤ (m_at : Int32).toInt ∧ (m_at : Int32).toInt ≤ 800) (h_m_from : 0 ≤ (m_from : Int32).toInt ∧ (m_from : Int32).toInt ≤ 800) (h_m_saidMany : 0 ≤ (m_saidMany : Int32).toInt ∧ (m_saidMany : Int32).toInt ≤ 60) (h_m_tiredMany : 0 ≤ (m_tiredMany : Int32).toInt ∧ (m_tiredMany : Int32).toInt ≤ 240) (a_m_cworld_0 : WI m_cworld) (h_far : 1 ≤ (m_cworld 0).toInt ∧ 1 ≤ (m_cworld 1).toInt) : Met l yX12_nextFrom (Cond.code yX12_nextFrom cX12_nextFrom 3 (some .int) :: TB) (rmd 3 0 0) (PP D cA [(h0, .inr (12, [.int m_thrown, .ref m_qworld, .ref m_qimages, .ref m_qhasImage, .ref m_qtape, .int m_taped, .ref m_qfive, .int m_size, .int m_at, .int m_from, .int m_token, .int m_value, .int m_faultKind, .int m_faultPlace, .ref m_qfresh, .int m_startOne, .int m_startOther, .int m_latest, .int m_leftBeats, .int m_signed, .int m_metMany, .ref m_qsums, .ref m_qpairs, .ref m_qgoesWith, .ref m_qsaid, .int m_saidMany, .int m_firstWait, .ref m_qfirstOrder, .int m_bundleFirst, .ref m_qtiredBy, .int m_tiredMany, .ref m_qmany, .ref m_qwidth, .ref m_qnumbers, .ref m_qmoving])), (m_qworld, .inl (cA 1, 122, .inl m_cworld))] [.ref h0, .int p0]) (vp_Si (fun r => r.toInt ≤ 10000)) 0 0 (fun _ => False) := by
  refine Met.ofW (cc := cX12_nextFrom) (maxL := 3) (ret := (some .int)) (by decide) rfl ?_
  intro p e s m args below meth c s₁ B hml hv
  obtain ⟨rfl, hP, hKN⟩ := hv
  have hx := B.exec
  have hb := B.bytes
  have hr := B.returns
  have hts : ∀ w ∈ TB, w.before _ s = true := fun w h => atoms_spec B.pre w (List.mem_cons_of_mem _ h)
  have hown : s.vm.findClass RX12 = some m.cls := findClass_of_methodNamed B.named
  have hlocks := B.notSynchronized
  have hl := lv_entry ([.ref h0, .int p0]) (n := 3) (Nat.le_of_ble_eq_true rfl)
  rw [lg_entry_eq]
  generalize (lg_sl ([.ref h0, .int p0]) ++ List.replicate (3 - (lg_sl ([.ref h0, .int p0])).length) Slot.unset).toArray = ls at hl ⊢
  have hl : lv_has ls 3 [(0, .ref h0), (1, .int p0)] := hl
  have hf_0 := a_m_cworld_0.1.1.1 0 (by decide) (by decide)
  have hf_1 := a_m_cworld_0.1.1.1 1 (by decide) (by decide)
  refine lv_iload_n hx hb dX12_nextFrom_0 rfl (lv_at hl 1 rfl) ?_
  refine lv_istore_n (lv' := [(2, .int p0), (0, .ref h0), (1, .int p0)]) hx hb dX12_nextFrom_1 rfl hl (by decide) rfl (fun ls hl => ?_)
  have b_14 := i32_bd p0
  refine loopW (σ := Int32) (fun _ => []) (fun L2_13 H locs ls => H = s.heap ∧ locs = [] ∧ lv_has ls 3 [(2, .int L2_13), (0, .ref h0), (1, .int p0)]) (fun L2_13 => (2147483647 - L2_13.toInt).toNat) ?_ (p0 : Int32) ⟨rfl, rfl, hl⟩
  intro x_13 H locs ls hI_13 ih_13
  obtain ⟨L2_13, rfl⟩ : ∃ z, z = x_13 := ⟨_, rfl⟩
  obtain ⟨rfl, rfl, hl⟩ := hI_13
  have hl : lv_has ls 3 [(2, .int L2_13), (0, .ref h0), (1, .int p0)] := hl
  refine lv_iload_n hx hb dX12_nextFrom_2 rfl (lv_at hl 0 rfl) ?_
  refine lv_sipush (v := 10000) hx hb dX12_nextFrom_3 (by decide) ?_
  refine lv_icmp_gt (tgt := 25) hx hb dX12_nextFrom_6 (by decide) (fun c_15 => ?_) (fun c_15 => ?_)
  · skip
    have b_17 := i32_bd L2_13
    have k_16 := kk_lt zi_10000 rfl c_15
    refine lv_iconst (v := (-1)) hx hb dX12_nextFrom_25 (by decide) ?_
    exact W.iret (v := (-1)) hx hb hr (fun t ht hW => ⟨(-1), rfl, (show ((-1) : Int32).toInt ≤ 10000 from by decide), ht⟩) (fun _ h => by cases h) dX12_nextFrom_26
  · skip
    have b_19 := i32_bd L2_13
    have k_18 := kk_nlt zi_10000 rfl c_15
    refine lv_aload_n hx hb dX12_nextFrom_9 rfl (lv_at hl 1 rfl) ?_
    refine lv_iload_n hx hb dX12_nextFrom_10 rfl (lv_at hl 0 rfl) ?_
    refine cpVi (rest := []) ⟨hx, hb, hml, hown, hts⟩ hKN (hP.sub (ws' := [(h0, .inr (12, [.int m_thrown, .ref m_qworld, .ref m_qimages, .ref m_qhasImage, .ref m_qtape, .int m_taped, .ref m_qfive, .int m_size, .int m_at, .int m_from, .int m_token, .int m_value, .int m_faultKind, .int m_faultPlace, .ref m_qfresh, .int m_startOne, .int m_startOther, .int m_latest, .int m_leftBeats, .int m_signed, .int m_metMany, .ref m_qsums, .ref m_qpairs, .ref m_qgoesWith, .ref m_qsaid, .int m_saidMany, .int m_firstWait, .ref m_qfirstOrder, .int m_bundleFirst, .ref m_qtiredBy, .int m_tiredMany, .ref m_qmany, .ref m_qwidth, .ref m_qnumbers, .ref m_qmoving])), (m_qworld, .inl (cA 1, 122, .inl m_cworld))]) [0, 1] rfl) (g_X12_isMeeting l D cA h0 m_thrown m_qworld m_qimages m_qhasImage m_qtape m_taped m_qfive m_size m_at m_from m_token m_value m_faultKind m_faultPlace m_qfresh m_startOne m_startOther m_latest m_leftBeats m_signed m_metMany m_qsums m_qpairs m_qgoesWith m_qsaid m_saidMany m_firstWait m_qfirstOrder m_bundleFirst m_qtiredBy m_tiredMany m_qmany m_qwidth m_qnumbers m_qmoving m_cworld L2_13 (by omega) (by omega) (by omega) (by omega) (by omega) (by omega) a_m_cworld_0 ⟨by omega, by omega⟩) (tb_V tw_1684 tw_1686 tw_59 tw_114 tw_1687) hdX12_isMeeting ⟨rfl, rfl, Nat.le_of_ble_eq_true rfl, Nat.le_of_ble_eq_true rfl⟩ ⟨Nat.le_of_ble_eq_true rfl, Nat.le_of_ble_eq_true rfl⟩ rfl rfl rfl hl.1 rfl (Nat.le_of_ble_eq_true rfl) dX12_nextFrom_11 (fun r_20 hr_20 => ?_)
    refine lv_if_eq (tgt := 19) hx hb dX12_nextFrom_14 (by decide) (fun c_21 => ?_) (fun c_21 => ?_)
    · skip
      have k_22 := kk_eq rfl zi_0 c_21
      obtain ⟨x_23, ex_23⟩ : ∃ y : Int32, L2_13 + Int32.ofInt 1 = y := ⟨_, rfl⟩
      have k_24 := ar_add (b := 1) rfl zi_1 ex_23.symm (by omega) (by omega)
      refine lv_iinc (v := x_23) (lv' := [(2, .int x_23), (0, .ref h0), (1, .int p0)]) hx hb dX12_nextFrom_19 hl (k := 0) rfl ex_23 (by decide) rfl (fun ls hl => ?_)
      refine lv_goto (tgt := 2) hx hb dX12_nextFrom_22 (by decide) ?_
      exact ih_13 (x_23) _ _ _ ⟨rfl, rfl, lv_sub hl [0, 1, 2] rfl⟩ (by show (2147483647 - x_23.toInt).toNat < (2147483647 - L2_13.toInt).toNat; omega)
    · skip
      have k_25 := kk_ne rfl zi_0 c_21
      refine lv_iload_n hx hb dX12_nextFrom_17 rfl (lv_at hl 0 rfl) ?_
      exact W.iret (v := L2_13) hx hb hr (fun t ht hW => ⟨L2_13, rfl, (show L2_13.toInt ≤ 10000 from by omega), ht⟩) (fun _ h => by cases h) dX12_nextFrom_18
set_option maxHeartbeats 8000000 in
set_option maxRecDepth 100000 in
theorem g_X12_manyTo (l : Launch) (D : va_G) (cA : Nat → ClassId) (h0 : Nat) (m_thrown : Int32) (m_qworld : Nat) (m_qimages : Nat) (m_qhasImage : Nat) (m_qtape : Nat) (m_taped : Int32) (m_qfive : Nat) (m_size : Int32) (m_at : Int32) (m_from : Int32) (m_token : Int32) (m_value : Int32) (m_faultKind : Int32) (m_faultPlace : Int32) (m_qfresh : Nat) (m_startOne : Int32) (m_startOther : Int32) (m_latest : Int32) (m_leftBeats : Int32) (m_signed : Int32) (m_metMany : Int32) (m_qsums : Nat) (m_qpairs : Nat) (m_qgoesWith : Nat) (m_qsaid : Nat) (m_saidMany : Int32) (m_firstWait : Int32) (m_qfirstOrder : Nat) (m_bundleFirst : Int32) (m_qtiredBy : Nat) (m_tiredMany : Int32) (m_qmany : Nat) (m_qwidth : Nat) (m_qnumbers : Nat) (m_qmoving : Nat) (m_cworld : Nat → Int32) (p0 : Int32) (h_m_taped : 0 ≤ (m_taped : Int32).toInt ∧ (m_taped : Int32).toInt ≤ 800) (h_m_size : 0 ≤ (m_size : Int32).toInt ∧ (m_size : Int32).toInt ≤ 800) (h_m_at : 0 ≤ (m_at : Int32).toInt ∧ (m_at : Int32).toInt ≤ 800) (h_m_from : 0 ≤ (m_from : Int32).toInt ∧ (m_from : Int32).toInt ≤ 800) (h_m_saidMany : 0 ≤ (m_saidMany : Int32).toInt ∧ (m_saidMany : Int32).toInt ≤ 60) (h_m_tiredMany : 0 ≤ (m_tiredMany : Int32).toInt ∧ (m_tiredMany : Int32).toInt ≤ 240) (h_p0 : (p0 : Int32).toInt ≤ 10000) (a_m_cworld_0 : WI m_cworld) (h_far : 1 ≤ (m_cworld 0).toInt ∧ 1 ≤ (m_cworld 1).toInt) : Met l yX12_manyTo (Cond.code yX12_manyTo cX12_manyTo 4 (some .int) :: TB) (rmd 3 0 0) (PP D cA [(h0, .inr (12, [.int m_thrown, .ref m_qworld, .ref m_qimages, .ref m_qhasImage, .ref m_qtape, .int m_taped, .ref m_qfive, .int m_size, .int m_at, .int m_from, .int m_token, .int m_value, .int m_faultKind, .int m_faultPlace, .ref m_qfresh, .int m_startOne, .int m_startOther, .int m_latest, .int m_leftBeats, .int m_signed, .int m_metMany, .ref m_qsums, .ref m_qpairs, .ref m_qgoesWith, .ref m_qsaid, .int m_saidMany, .int m_firstWait, .ref m_qfirstOrder, .int m_bundleFirst, .ref m_qtiredBy, .int m_tiredMany, .ref m_qmany, .ref m_qwidth, .ref m_qnumbers, .ref m_qmoving])), (m_qworld, .inl (cA 1, 122, .inl m_cworld))] [.ref h0, .int p0]) (vp_Si (fun r => True)) 0 0 (fun _ => False) := by
  refine Met.ofW (cc := cX12_manyTo) (maxL := 4) (ret := (some .int)) (by decide) rfl ?_
  intro p e s m args below meth c s₁ B hml hv
  obtain ⟨rfl, hP, hKN⟩ := hv
  have hx := B.exec
  have hb := B.bytes
  have hr := B.returns
  have hts : ∀ w ∈ TB, w.before _ s = true := fun w h => atoms_spec B.pre w (List.mem_cons_of_mem _ h)
  have hown : s.vm.findClass RX12 = some m.cls := findClass_of_methodNamed B.named
  have hlocks := B.notSynchronized
  have hl := lv_entry ([.ref h0, .int p0]) (n := 4) (Nat.le_of_ble_eq_true rfl)
  rw [lg_entry_eq]
  generalize (lg_sl ([.ref h0, .int p0]) ++ List.replicate (4 - (lg_sl ([.ref h0, .int p0])).length) Slot.unset).toArray = ls at hl ⊢
  have hl : lv_has ls 4 [(0, .ref h0), (1, .int p0)] := hl
  have hf_0 := a_m_cworld_0.1.1.1 0 (by decide) (by decide)
  have hf_1 := a_m_cworld_0.1.1.1 1 (by decide) (by decide)
  refine lv_iconst (v := 0) hx hb dX12_manyTo_0 (by decide) ?_
  refine lv_istore_n (lv' := [(2, .int 0), (0, .ref h0), (1, .int p0)]) hx hb dX12_manyTo_1 rfl hl (by decide) rfl (fun ls hl => ?_)
  refine lv_iconst (v := 0) hx hb dX12_manyTo_2 (by decide) ?_
  refine lv_istore_n (lv' := [(3, .int 0), (2, .int 0), (0, .ref h0), (1, .int p0)]) hx hb dX12_manyTo_3 rfl hl (by decide) rfl (fun ls hl => ?_)
  refine loopW (σ := Int32 × Int32) (fun _ => []) (fun ⟨L3_100, L2_100⟩ H locs ls => (0 ≤ L3_100.toInt ∧ L3_100.toInt ≤ 10001) ∧ H = s.heap ∧ locs = [] ∧ lv_has ls 4 [(3, .int L3_100), (2, .int L2_100), (0, .ref h0), (1, .int p0)]) (fun ⟨L3_100, L2_100⟩ => (2147483647 - L3_100.toInt).toNat) ?_ ((0, 0) : Int32 × Int32) ⟨(by decide), rfl, rfl, hl⟩
  intro x_100 H locs ls hI_100 ih_100
  obtain ⟨L3_100, L2_100⟩ := x_100
  obtain ⟨k0_100, rfl, rfl, hl⟩ := hI_100
  have hl : lv_has ls 4 [(3, .int L3_100), (2, .int L2_100), (0, .ref h0), (1, .int p0)] := hl
  refine lv_iload_n hx hb dX12_manyTo_4 rfl (lv_at hl 0 rfl) ?_
  refine lv_iload_n hx hb dX12_manyTo_5 rfl (lv_at hl 3 rfl) ?_
  refine lv_icmp_gt (tgt := 31) hx hb dX12_manyTo_6 (by decide) (fun c_101 => ?_) (fun c_101 => ?_)
  · skip
    have k_102 := kk_lt rfl rfl c_101
    refine lv_iload_n hx hb dX12_manyTo_31 rfl (lv_at hl 1 rfl) ?_
    exact W.iret (v := L2_100) hx hb hr (fun t ht hW => ⟨L2_100, rfl, trivial, ht⟩) (fun _ h => by cases h) dX12_manyTo_32
  · skip
    have k_103 := kk_nlt rfl rfl c_101
    refine lv_iload_n hx hb dX12_manyTo_9 rfl (lv_at hl 1 rfl) ?_
    refine lv_aload_n hx hb dX12_manyTo_10 rfl (lv_at hl 2 rfl) ?_
    refine lv_iload_n hx hb dX12_manyTo_11 rfl (lv_at hl 0 rfl) ?_
    refine cpVi (rest := [.int L2_100]) ⟨hx, hb, hml, hown, hts⟩ hKN (hP.sub (ws' := [(h0, .inr (12, [.int m_thrown, .ref m_qworld, .ref m_qimages, .ref m_qhasImage, .ref m_qtape, .int m_taped, .ref m_qfive, .int m_size, .int m_at, .int m_from, .int m_token, .int m_value, .int m_faultKind, .int m_faultPlace, .ref m_qfresh, .int m_startOne, .int m_startOther, .int m_latest, .int m_leftBeats, .int m_signed, .int m_metMany, .ref m_qsums, .ref m_qpairs, .ref m_qgoesWith, .ref m_qsaid, .int m_saidMany, .int m_firstWait, .ref m_qfirstOrder, .int m_bundleFirst, .ref m_qtiredBy, .int m_tiredMany, .ref m_qmany, .ref m_qwidth, .ref m_qnumbers, .ref m_qmoving])), (m_qworld, .inl (cA 1, 122, .inl m_cworld))]) [0, 1] rfl) (g_X12_isMeeting l D cA h0 m_thrown m_qworld m_qimages m_qhasImage m_qtape m_taped m_qfive m_size m_at m_from m_token m_value m_faultKind m_faultPlace m_qfresh m_startOne m_startOther m_latest m_leftBeats m_signed m_metMany m_qsums m_qpairs m_qgoesWith m_qsaid m_saidMany m_firstWait m_qfirstOrder m_bundleFirst m_qtiredBy m_tiredMany m_qmany m_qwidth m_qnumbers m_qmoving m_cworld L3_100 (by omega) (by omega) (by omega) (by omega) (by omega) (by omega) a_m_cworld_0 ⟨by omega, by omega⟩) (tb_V tw_1684 tw_1686 tw_59 tw_114 tw_1687) hdX12_isMeeting ⟨rfl, rfl, Nat.le_of_ble_eq_true rfl, Nat.le_of_ble_eq_true rfl⟩ ⟨Nat.le_of_ble_eq_true rfl, Nat.le_of_ble_eq_true rfl⟩ rfl rfl rfl hl.1 rfl (Nat.le_of_ble_eq_true rfl) dX12_manyTo_12 (fun r_104 hr_104 => ?_)
    refine lv_if_eq (tgt := 22) hx hb dX12_manyTo_15 (by decide) (fun c_105 => ?_) (fun c_105 => ?_)
    · skip
      have k_106 := kk_eq rfl zi_0 c_105
      refine lv_iconst (v := 0) hx hb dX12_manyTo_22 (by decide) ?_
      refine lv_iadd hx hb dX12_manyTo_23 ?_
      refine lv_topi (fun x_107 ex_107 => ?_)
      have b_109 := i32_bd L2_100
      have k_108 := ar_add rfl zi_0 ex_107 (by omega) (by omega)
      refine lv_istore_n (lv' := [(2, .int x_107), (3, .int L3_100), (0, .ref h0), (1, .int p0)]) hx hb dX12_manyTo_24 rfl hl (by decide) rfl (fun ls hl => ?_)
      obtain ⟨x_110, ex_110⟩ : ∃ y : Int32, L3_100 + Int32.ofInt 1 = y := ⟨_, rfl⟩
      have k_111 := ar_add (b := 1) rfl zi_1 ex_110.symm (by omega) (by omega)
      refine lv_iinc (v := x_110) (lv' := [(3, .int x_110), (2, .int x_107), (0, .ref h0), (1, .int p0)]) hx hb dX12_manyTo_25 hl (k := 1) rfl ex_110 (by decide) rfl (fun ls hl => ?_)
      refine lv_goto (tgt := 4) hx hb dX12_manyTo_28 (by decide) ?_
      exact ih_100 (x_110, x_107) _ _ _ ⟨(show 0 ≤ x_110.toInt ∧ x_110.toInt ≤ 10001 from by omega), rfl, rfl, lv_sub hl [0, 1, 2, 3] rfl⟩ (by show (2147483647 - x_110.toInt).toNat < (2147483647 - L3_100.toInt).toNat; omega)
    · skip
      have k_112 := kk_ne rfl zi_0 c_105
      refine lv_iconst (v := 1) hx hb dX12_manyTo_18 (by decide) ?_
      refine lv_goto (tgt := 23) hx hb dX12_manyTo_19 (by decide) ?_
      refine lv_iadd hx hb dX12_manyTo_23 ?_
      refine lv_topi (fun x_113 ex_113 => ?_)
      refine lv_istore_n (lv' := [(2, .int x_113), (3, .int L3_100), (0, .ref h0), (1, .int p0)]) hx hb dX12_manyTo_24 rfl hl (by decide) rfl (fun ls hl => ?_)
      obtain ⟨x_115, ex_115⟩ : ∃ y : Int32, L3_100 + Int32.ofInt 1 = y := ⟨_, rfl⟩
      have k_116 := ar_add (b := 1) rfl zi_1 ex_115.symm (by omega) (by omega)
      refine lv_iinc (v := x_115) (lv' := [(3, .int x_115), (2, .int x_113), (0, .ref h0), (1, .int p0)]) hx hb dX12_manyTo_25 hl (k := 1) rfl ex_115 (by decide) rfl (fun ls hl => ?_)
      refine lv_goto (tgt := 4) hx hb dX12_manyTo_28 (by decide) ?_
      exact ih_100 (x_115, x_113) _ _ _ ⟨(show 0 ≤ x_115.toInt ∧ x_115.toInt ≤ 10001 from by omega), rfl, rfl, lv_sub hl [0, 1, 2, 3] rfl⟩ (by show (2147483647 - x_115.toInt).toNat < (2147483647 - L3_100.toInt).toNat; omega)
set_option maxHeartbeats 8000000 in
set_option maxRecDepth 100000 in
theorem g_X12_meetOf (l : Launch) (D : va_G) (cA : Nat → ClassId) (h0 : Nat) (m_thrown : Int32) (m_qworld : Nat) (m_qimages : Nat) (m_qhasImage : Nat) (m_qtape : Nat) (m_taped : Int32) (m_qfive : Nat) (m_size : Int32) (m_at : Int32) (m_from : Int32) (m_token : Int32) (m_value : Int32) (m_faultKind : Int32) (m_faultPlace : Int32) (m_qfresh : Nat) (m_startOne : Int32) (m_startOther : Int32) (m_latest : Int32) (m_leftBeats : Int32) (m_signed : Int32) (m_metMany : Int32) (m_qsums : Nat) (m_qpairs : Nat) (m_qgoesWith : Nat) (m_qsaid : Nat) (m_saidMany : Int32) (m_firstWait : Int32) (m_qfirstOrder : Nat) (m_bundleFirst : Int32) (m_qtiredBy : Nat) (m_tiredMany : Int32) (m_qmany : Nat) (m_qwidth : Nat) (m_qnumbers : Nat) (m_qmoving : Nat) (m_cworld : Nat → Int32) (p0 : Int32) (h_m_taped : 0 ≤ (m_taped : Int32).toInt ∧ (m_taped : Int32).toInt ≤ 800) (h_m_size : 0 ≤ (m_size : Int32).toInt ∧ (m_size : Int32).toInt ≤ 800) (h_m_at : 0 ≤ (m_at : Int32).toInt ∧ (m_at : Int32).toInt ≤ 800) (h_m_from : 0 ≤ (m_from : Int32).toInt ∧ (m_from : Int32).toInt ≤ 800) (h_m_saidMany : 0 ≤ (m_saidMany : Int32).toInt ∧ (m_saidMany : Int32).toInt ≤ 60) (h_m_tiredMany : 0 ≤ (m_tiredMany : Int32).toInt ∧ (m_tiredMany : Int32).toInt ≤ 240) (a_m_cworld_0 : WI m_cworld) (h_far : 1 ≤ (m_cworld 0).toInt ∧ 1 ≤ (m_cworld 1).toInt) : Met l yX12_meetOf (Cond.code yX12_meetOf cX12_meetOf 4 (some .int) :: TB) (rmd 4 0 0) (PP D cA [(h0, .inr (12, [.int m_thrown, .ref m_qworld, .ref m_qimages, .ref m_qhasImage, .ref m_qtape, .int m_taped, .ref m_qfive, .int m_size, .int m_at, .int m_from, .int m_token, .int m_value, .int m_faultKind, .int m_faultPlace, .ref m_qfresh, .int m_startOne, .int m_startOther, .int m_latest, .int m_leftBeats, .int m_signed, .int m_metMany, .ref m_qsums, .ref m_qpairs, .ref m_qgoesWith, .ref m_qsaid, .int m_saidMany, .int m_firstWait, .ref m_qfirstOrder, .int m_bundleFirst, .ref m_qtiredBy, .int m_tiredMany, .ref m_qmany, .ref m_qwidth, .ref m_qnumbers, .ref m_qmoving])), (m_qworld, .inl (cA 1, 122, .inl m_cworld))] [.ref h0, .int p0]) (vp_Si (fun r => r.toInt ≤ 10000)) 0 0 (fun _ => False) := by
  refine Met.ofW (cc := cX12_meetOf) (maxL := 4) (ret := (some .int)) (by decide) rfl ?_
  intro p e s m args below meth c s₁ B hml hv
  obtain ⟨rfl, hP, hKN⟩ := hv
  have hx := B.exec
  have hb := B.bytes
  have hr := B.returns
  have hts : ∀ w ∈ TB, w.before _ s = true := fun w h => atoms_spec B.pre w (List.mem_cons_of_mem _ h)
  have hown : s.vm.findClass RX12 = some m.cls := findClass_of_methodNamed B.named
  have hlocks := B.notSynchronized
  have hl := lv_entry ([.ref h0, .int p0]) (n := 4) (Nat.le_of_ble_eq_true rfl)
  rw [lg_entry_eq]
  generalize (lg_sl ([.ref h0, .int p0]) ++ List.replicate (4 - (lg_sl ([.ref h0, .int p0])).length) Slot.unset).toArray = ls at hl ⊢
  have hl : lv_has ls 4 [(0, .ref h0), (1, .int p0)] := hl
  have hf_0 := a_m_cworld_0.1.1.1 0 (by decide) (by decide)
  have hf_1 := a_m_cworld_0.1.1.1 1 (by decide) (by decide)
  refine lv_aload_n hx hb dX12_meetOf_0 rfl (lv_at hl 0 rfl) ?_
  refine lv_iconst (v := 0) hx hb dX12_meetOf_1 (by decide) ?_
  have z_1 := zi_0
  refine cpVi (rest := []) ⟨hx, hb, hml, hown, hts⟩ hKN (hP.sub (ws' := [(h0, .inr (12, [.int m_thrown, .ref m_qworld, .ref m_qimages, .ref m_qhasImage, .ref m_qtape, .int m_taped, .ref m_qfive, .int m_size, .int m_at, .int m_from, .int m_token, .int m_value, .int m_faultKind, .int m_faultPlace, .ref m_qfresh, .int m_startOne, .int m_startOther, .int m_latest, .int m_leftBeats, .int m_signed, .int m_metMany, .ref m_qsums, .ref m_qpairs, .ref m_qgoesWith, .ref m_qsaid, .int m_saidMany, .int m_firstWait, .ref m_qfirstOrder, .int m_bundleFirst, .ref m_qtiredBy, .int m_tiredMany, .ref m_qmany, .ref m_qwidth, .ref m_qnumbers, .ref m_qmoving])), (m_qworld, .inl (cA 1, 122, .inl m_cworld))]) [0, 1] rfl) (g_X12_nextFrom l D cA h0 m_thrown m_qworld m_qimages m_qhasImage m_qtape m_taped m_qfive m_size m_at m_from m_token m_value m_faultKind m_faultPlace m_qfresh m_startOne m_startOther m_latest m_leftBeats m_signed m_metMany m_qsums m_qpairs m_qgoesWith m_qsaid m_saidMany m_firstWait m_qfirstOrder m_bundleFirst m_qtiredBy m_tiredMany m_qmany m_qwidth m_qnumbers m_qmoving m_cworld 0 (by omega) (by omega) (by omega) (by omega) (by omega) (by omega) a_m_cworld_0 ⟨by omega, by omega⟩) (tb_V tw_1680 tw_1682 tw_58 tw_114 tw_1683) hdX12_nextFrom ⟨rfl, rfl, Nat.le_of_ble_eq_true rfl, Nat.le_of_ble_eq_true rfl⟩ ⟨Nat.le_of_ble_eq_true rfl, Nat.le_of_ble_eq_true rfl⟩ rfl rfl rfl hl.1 rfl (Nat.le_of_ble_eq_true rfl) dX12_meetOf_2 (fun r_2 hr_2 => ?_)
  refine lv_istore_n (lv' := [(2, .int r_2), (0, .ref h0), (1, .int p0)]) hx hb dX12_meetOf_5 rfl hl (by decide) rfl (fun ls hl => ?_)
  refine lv_iconst (v := 0) hx hb dX12_meetOf_6 (by decide) ?_
  refine lv_istore_n (lv' := [(3, .int 0), (2, .int r_2), (0, .ref h0), (1, .int p0)]) hx hb dX12_meetOf_7 rfl hl (by decide) rfl (fun ls hl => ?_)
  refine loopW (σ := Int32 × Int32) (fun _ => []) (fun ⟨L3_63, L2_63⟩ H locs ls => (0 ≤ L3_63.toInt) ∧ (L2_63.toInt ≤ 10000) ∧ H = s.heap ∧ locs = [] ∧ lv_has ls 4 [(3, .int L3_63), (2, .int L2_63), (0, .ref h0), (1, .int p0)]) (fun ⟨L3_63, L2_63⟩ => (2147483647 - L3_63.toInt).toNat) ?_ ((0, r_2) : Int32 × Int32) ⟨(by decide), (show r_2.toInt ≤ 10000 from by omega), rfl, rfl, hl⟩
  intro x_63 H locs ls hI_63 ih_63
  obtain ⟨L3_63, L2_63⟩ := x_63
  obtain ⟨k0_63, k1_63, rfl, rfl, hl⟩ := hI_63
  have hl : lv_has ls 4 [(3, .int L3_63), (2, .int L2_63), (0, .ref h0), (1, .int p0)] := hl
  refine lv_iload_n hx hb dX12_meetOf_8 rfl (lv_at hl 0 rfl) ?_
  refine lv_iload_n hx hb dX12_meetOf_9 rfl (lv_at hl 3 rfl) ?_
  refine lv_icmp_ge (tgt := 32) hx hb dX12_meetOf_10 (by decide) (fun c_64 => ?_) (fun c_64 => ?_)
  · skip
    have b_66 := i32_bd p0
    have k_65 := kk_le rfl rfl c_64
    refine lv_iload_n hx hb dX12_meetOf_32 rfl (lv_at hl 1 rfl) ?_
    exact W.iret (v := L2_63) hx hb hr (fun t ht hW => ⟨L2_63, rfl, (show L2_63.toInt ≤ 10000 from by omega), ht⟩) (fun _ h => by cases h) dX12_meetOf_33
  · skip
    have b_68 := i32_bd p0
    have k_67 := kk_nle rfl rfl c_64
    refine lv_iload_n hx hb dX12_meetOf_13 rfl (lv_at hl 1 rfl) ?_
    refine lv_iconst (v := (-1)) hx hb dX12_meetOf_14 (by decide) ?_
    refine lv_icmp_eq (tgt := 32) hx hb dX12_meetOf_15 (by decide) (fun c_69 => ?_) (fun c_69 => ?_)
    · skip
      have k_70 := kk_eq rfl zi_m1 c_69
      refine lv_iload_n hx hb dX12_meetOf_32 rfl (lv_at hl 1 rfl) ?_
      exact W.iret (v := L2_63) hx hb hr (fun t ht hW => ⟨L2_63, rfl, (show L2_63.toInt ≤ 10000 from by omega), ht⟩) (fun _ h => by cases h) dX12_meetOf_33
    · skip
      have k_71 := kk_ne rfl zi_m1 c_69
      refine lv_aload_n hx hb dX12_meetOf_18 rfl (lv_at hl 2 rfl) ?_
      refine lv_iload_n hx hb dX12_meetOf_19 rfl (lv_at hl 1 rfl) ?_
      refine lv_iconst (v := 1) hx hb dX12_meetOf_20 (by decide) ?_
      refine lv_iadd hx hb dX12_meetOf_21 ?_
      refine lv_topi (fun x_72 ex_72 => ?_)
      have b_74 := i32_bd L2_63
      have k_73 := ar_add rfl zi_1 ex_72 (by omega) (by omega)
      refine cpVi (rest := []) ⟨hx, hb, hml, hown, hts⟩ hKN (hP.sub (ws' := [(h0, .inr (12, [.int m_thrown, .ref m_qworld, .ref m_qimages, .ref m_qhasImage, .ref m_qtape, .int m_taped, .ref m_qfive, .int m_size, .int m_at, .int m_from, .int m_token, .int m_value, .int m_faultKind, .int m_faultPlace, .ref m_qfresh, .int m_startOne, .int m_startOther, .int m_latest, .int m_leftBeats, .int m_signed, .int m_metMany, .ref m_qsums, .ref m_qpairs, .ref m_qgoesWith, .ref m_qsaid, .int m_saidMany, .int m_firstWait, .ref m_qfirstOrder, .int m_bundleFirst, .ref m_qtiredBy, .int m_tiredMany, .ref m_qmany, .ref m_qwidth, .ref m_qnumbers, .ref m_qmoving])), (m_qworld, .inl (cA 1, 122, .inl m_cworld))]) [0, 1] rfl) (g_X12_nextFrom l D cA h0 m_thrown m_qworld m_qimages m_qhasImage m_qtape m_taped m_qfive m_size m_at m_from m_token m_value m_faultKind m_faultPlace m_qfresh m_startOne m_startOther m_latest m_leftBeats m_signed m_metMany m_qsums m_qpairs m_qgoesWith m_qsaid m_saidMany m_firstWait m_qfirstOrder m_bundleFirst m_qtiredBy m_tiredMany m_qmany m_qwidth m_qnumbers m_qmoving m_cworld x_72 (by omega) (by omega) (by omega) (by omega) (by omega) (by omega) a_m_cworld_0 ⟨by omega, by omega⟩) (tb_V tw_1680 tw_1682 tw_58 tw_114 tw_1683) hdX12_nextFrom ⟨rfl, rfl, Nat.le_of_ble_eq_true rfl, Nat.le_of_ble_eq_true rfl⟩ ⟨Nat.le_of_ble_eq_true rfl, Nat.le_of_ble_eq_true rfl⟩ rfl rfl rfl hl.1 rfl (Nat.le_of_ble_eq_true rfl) dX12_meetOf_22 (fun r_75 hr_75 => ?_)
      refine lv_istore_n (lv' := [(2, .int r_75), (3, .int L3_63), (0, .ref h0), (1, .int p0)]) hx hb dX12_meetOf_25 rfl hl (by decide) rfl (fun ls hl => ?_)
      obtain ⟨x_76, ex_76⟩ : ∃ y : Int32, L3_63 + Int32.ofInt 1 = y := ⟨_, rfl⟩
      have k_77 := ar_add (b := 1) rfl zi_1 ex_76.symm (by omega) (by omega)
      refine lv_iinc (v := x_76) (lv' := [(3, .int x_76), (2, .int r_75), (0, .ref h0), (1, .int p0)]) hx hb dX12_meetOf_26 hl (k := 1) rfl ex_76 (by decide) rfl (fun ls hl => ?_)
      refine lv_goto (tgt := 8) hx hb dX12_meetOf_29 (by decide) ?_
      exact ih_63 (x_76, r_75) _ _ _ ⟨(show 0 ≤ x_76.toInt from by omega), (show r_75.toInt ≤ 10000 from by omega), rfl, rfl, lv_sub hl [0, 1, 2, 3] rfl⟩ (by show (2147483647 - x_76.toInt).toNat < (2147483647 - L3_63.toInt).toNat; omega)
set_option maxHeartbeats 8000000 in
set_option maxRecDepth 100000 in
theorem g_X12_push0 (l : Launch) (D : va_G) (cA : Nat → ClassId) (sz : Nat) (h0 : Nat) (m_thrown : Int32) (m_qworld : Nat) (m_qimages : Nat) (m_qhasImage : Nat) (m_qtape : Nat) (m_taped : Int32) (m_qfive : Nat) (m_size : Int32) (m_at : Int32) (m_from : Int32) (m_token : Int32) (m_value : Int32) (m_faultKind : Int32) (m_faultPlace : Int32) (m_qfresh : Nat) (m_startOne : Int32) (m_startOther : Int32) (m_latest : Int32) (m_leftBeats : Int32) (m_signed : Int32) (m_metMany : Int32) (m_qsums : Nat) (m_qpairs : Nat) (m_qgoesWith : Nat) (m_qsaid : Nat) (m_saidMany : Int32) (m_firstWait : Int32) (m_qfirstOrder : Nat) (m_bundleFirst : Int32) (m_qtiredBy : Nat) (m_tiredMany : Int32) (m_qmany : Nat) (m_qwidth : Nat) (m_qnumbers : Nat) (m_qmoving : Nat) (m_cworld : Nat → Int32) (p0 : Int32) (p1 : Int32) (h_m_taped : 0 ≤ (m_taped : Int32).toInt ∧ (m_taped : Int32).toInt ≤ 800) (h_m_size : 0 ≤ (m_size : Int32).toInt ∧ (m_size : Int32).toInt ≤ 800) (h_m_at : 0 ≤ (m_at : Int32).toInt ∧ (m_at : Int32).toInt ≤ 800) (h_m_from : 0 ≤ (m_from : Int32).toInt ∧ (m_from : Int32).toInt ≤ 800) (h_m_saidMany : 0 ≤ (m_saidMany : Int32).toInt ∧ (m_saidMany : Int32).toInt ≤ 60) (h_m_tiredMany : 0 ≤ (m_tiredMany : Int32).toInt ∧ (m_tiredMany : Int32).toInt ≤ 240) (a_m_cworld_0 : WI m_cworld) (h_far : 1 ≤ (m_cworld 0).toInt ∧ 1 ≤ (m_cworld 1).toInt) : Met l yX12_push0 (Cond.code yX12_push0 cX12_push0 3 none :: TB) (rmd 0 0 0) (PM D cA sz [(h0, .inr (12, [.int m_thrown, .ref m_qworld, .ref m_qimages, .ref m_qhasImage, .ref m_qtape, .int m_taped, .ref m_qfive, .int m_size, .int m_at, .int m_from, .int m_token, .int m_value, .int m_faultKind, .int m_faultPlace, .ref m_qfresh, .int m_startOne, .int m_startOther, .int m_latest, .int m_leftBeats, .int m_signed, .int m_metMany, .ref m_qsums, .ref m_qpairs, .ref m_qgoesWith, .ref m_qsaid, .int m_saidMany, .int m_firstWait, .ref m_qfirstOrder, .int m_bundleFirst, .ref m_qtiredBy, .int m_tiredMany, .ref m_qmany, .ref m_qwidth, .ref m_qnumbers, .ref m_qmoving])), (m_qworld, .inl (cA 1, 122, .inl m_cworld))] [.ref h0, .int p0, .int p1]) (va_Qv (fun (u : SU) => True) (fun u t => va_P D vwCl [(h0, .inr (12, [.int m_thrown, .ref m_qworld, .ref m_qimages, .ref m_qhasImage, .ref m_qtape, .int m_taped, .ref m_qfive, .int m_size, .int m_at, .int m_from, .int m_token, .int m_value, .int m_faultKind, .int m_faultPlace, .ref m_qfresh, .int (u.2.1 0), .int (u.2.1 1), .int m_latest, .int m_leftBeats, .int m_signed, .int m_metMany, .ref m_qsums, .ref m_qpairs, .ref m_qgoesWith, .ref m_qsaid, .int m_saidMany, .int m_firstWait, .ref m_qfirstOrder, .int m_bundleFirst, .ref m_qtiredBy, .int m_tiredMany, .ref m_qmany, .ref m_qwidth, .ref m_qnumbers, .ref m_qmoving])), (m_qworld, .inl (cA 1, 122, .inl m_cworld))] t.heap ∧ va_D (va_A [(h0, .inr (12, [.int m_thrown, .ref m_qworld, .ref m_qimages, .ref m_qhasImage, .ref m_qtape, .int m_taped, .ref m_qfive, .int m_size, .int m_at, .int m_from, .int m_token, .int m_value, .int m_faultKind, .int m_faultPlace, .ref m_qfresh, .int m_startOne, .int m_startOther, .int m_latest, .int m_leftBeats, .int m_signed, .int m_metMany, .ref m_qsums, .ref m_qpairs, .ref m_qgoesWith, .ref m_qsaid, .int m_saidMany, .int m_firstWait, .ref m_qfirstOrder, .int m_bundleFirst, .ref m_qtiredBy, .int m_tiredMany, .ref m_qmany, .ref m_qwidth, .ref m_qnumbers, .ref m_qmoving])), (m_qworld, .inl (cA 1, 122, .inl m_cworld))] sz) [(h0, .inr (12, [.int m_thrown, .ref m_qworld, .ref m_qimages, .ref m_qhasImage, .ref m_qtape, .int m_taped, .ref m_qfive, .int m_size, .int m_at, .int m_from, .int m_token, .int m_value, .int m_faultKind, .int m_faultPlace, .ref m_qfresh, .int (u.2.1 0), .int (u.2.1 1), .int m_latest, .int m_leftBeats, .int m_signed, .int m_metMany, .ref m_qsums, .ref m_qpairs, .ref m_qgoesWith, .ref m_qsaid, .int m_saidMany, .int m_firstWait, .ref m_qfirstOrder, .int m_bundleFirst, .ref m_qtiredBy, .int m_tiredMany, .ref m_qmany, .ref m_qwidth, .ref m_qnumbers, .ref m_qmoving])), (m_qworld, .inl (cA 1, 122, .inl m_cworld))]) (va_A [(h0, .inr (12, [.int m_thrown, .ref m_qworld, .ref m_qimages, .ref m_qhasImage, .ref m_qtape, .int m_taped, .ref m_qfive, .int m_size, .int m_at, .int m_from, .int m_token, .int m_value, .int m_faultKind, .int m_faultPlace, .ref m_qfresh, .int m_startOne, .int m_startOther, .int m_latest, .int m_leftBeats, .int m_signed, .int m_metMany, .ref m_qsums, .ref m_qpairs, .ref m_qgoesWith, .ref m_qsaid, .int m_saidMany, .int m_firstWait, .ref m_qfirstOrder, .int m_bundleFirst, .ref m_qtiredBy, .int m_tiredMany, .ref m_qmany, .ref m_qwidth, .ref m_qnumbers, .ref m_qmoving])), (m_qworld, .inl (cA 1, 122, .inl m_cworld))] sz)) 0 0 (va_A [(h0, .inr (12, [.int m_thrown, .ref m_qworld, .ref m_qimages, .ref m_qhasImage, .ref m_qtape, .int m_taped, .ref m_qfive, .int m_size, .int m_at, .int m_from, .int m_token, .int m_value, .int m_faultKind, .int m_faultPlace, .ref m_qfresh, .int m_startOne, .int m_startOther, .int m_latest, .int m_leftBeats, .int m_signed, .int m_metMany, .ref m_qsums, .ref m_qpairs, .ref m_qgoesWith, .ref m_qsaid, .int m_saidMany, .int m_firstWait, .ref m_qfirstOrder, .int m_bundleFirst, .ref m_qtiredBy, .int m_tiredMany, .ref m_qmany, .ref m_qwidth, .ref m_qnumbers, .ref m_qmoving])), (m_qworld, .inl (cA 1, 122, .inl m_cworld))] sz) := by
  refine Met.ofW (cc := cX12_push0) (maxL := 3) (ret := none) (by decide) rfl ?_
  intro p e s m args below meth c s₁ B hml hv
  obtain ⟨rfl, hsz, hP, hKN, hD0⟩ := hv
  have hx := B.exec
  have hb := B.bytes
  have hr := B.returns
  have hts : ∀ w ∈ TB, w.before _ s = true := fun w h => atoms_spec B.pre w (List.mem_cons_of_mem _ h)
  have hown : s.vm.findClass RX12 = some m.cls := findClass_of_methodNamed B.named
  have hlocks := B.notSynchronized
  subst hsz
  have hD := hD0.self (sz := s.heap.size)
  generalize hAe : va_A [(h0, .inr (12, [.int m_thrown, .ref m_qworld, .ref m_qimages, .ref m_qhasImage, .ref m_qtape, .int m_taped, .ref m_qfive, .int m_size, .int m_at, .int m_from, .int m_token, .int m_value, .int m_faultKind, .int m_faultPlace, .ref m_qfresh, .int m_startOne, .int m_startOther, .int m_latest, .int m_leftBeats, .int m_signed, .int m_metMany, .ref m_qsums, .ref m_qpairs, .ref m_qgoesWith, .ref m_qsaid, .int m_saidMany, .int m_firstWait, .ref m_qfirstOrder, .int m_bundleFirst, .ref m_qtiredBy, .int m_tiredMany, .ref m_qmany, .ref m_qwidth, .ref m_qnumbers, .ref m_qmoving])), (m_qworld, .inl (cA 1, 122, .inl m_cworld))] s.heap.size = A at hD ⊢
  have hA : ∀ q : Nat, s.heap.size ≤ q → A q := fun q h => by rw [← hAe]; exact Or.inr h
  have hS : va_S A s.heap s.heap [] := va_S.rf
  have hl := lv_entry ([.ref h0, .int p0, .int p1]) (n := 3) (Nat.le_of_ble_eq_true rfl)
  rw [lg_entry_eq]
  generalize (lg_sl ([.ref h0, .int p0, .int p1]) ++ List.replicate (3 - (lg_sl ([.ref h0, .int p0, .int p1])).length) Slot.unset).toArray = ls at hl ⊢
  have hl : lv_has ls 3 [(0, .ref h0), (1, .int p0), (2, .int p1)] := hl
  have hf_0 := a_m_cworld_0.1.1.1 0 (by decide) (by decide)
  have hf_1 := a_m_cworld_0.1.1.1 1 (by decide) (by decide)
  refine lv_iload_n hx hb dX12_push0_0 rfl (lv_at hl 1 rfl) ?_
  refine lv_if_ne (tgt := 24) hx hb dX12_push0_1 (by decide) (fun c_1 => ?_) (fun c_1 => ?_)
  · skip
    have b_3 := i32_bd p0
    have k_2 := kk_ne rfl zi_0 c_1
    refine lv_aload_n hx hb dX12_push0_24 rfl (lv_at hl 0 rfl) ?_
    refine lv_aload_n hx hb dX12_push0_25 rfl (lv_at hl 0 rfl) ?_
    refine va_get (D := D) (ci := 12) (v := .int m_startOther) (C := RX12) (T := TX12) (N := 35) hx hb hts inX12 hown hKN.1 hP 0 rfl rfl 16 (by decide) (hts _ tw_1435) (fun _ h9 => h9) rfl dX12_push0_26 ?_
    refine lv_iload_n hx hb dX12_push0_29 rfl (lv_at hl 2 rfl) ?_
    refine lv_iadd hx hb dX12_push0_30 ?_
    refine lv_topi (fun x_4 ex_4 => ?_)
    refine lv_aload_n hx hb dX12_push0_31 rfl (lv_at hl 0 rfl) ?_
    refine va_get (D := D) (ci := 12) (v := .ref m_qworld) (C := RX12) (T := TX12) (N := 35) hx hb hts inX12 hown hKN.1 hP 0 rfl rfl 1 (by decide) (hts _ tw_1420) (fun _ h9 => h9) rfl dX12_push0_32 ?_
    refine lv_iconst (v := 1) hx hb dX12_push0_35 (by decide) ?_
    refine va_iald hx hb hKN.1 hP 1 1 rfl rfl (by unfold vp_in; decide) dX12_push0_36 ?_
    refine W.eq (g2 := F0 m 37 ls [.int (m_cworld 1), .int x_4, .ref h0]) rfl ?_
    refine lv_irem hx hb dX12_push0_37 (nz_i (by omega)) ?_
    refine lv_topi (fun x_6 ex_6 => ?_)
    refine va_put (D := D) (ci := 12) (v := .int x_6) (ty := .int) (C := RX12) (T := TX12) (N := 35) hx hb hts inX12 tyX12 tyX12_ok nmX12 hown hKN.1 hP hD hS 0 rfl rfl 16 (by decide) (hts _ tw_1435) (fun _ h9 => h9) rfl (by decide +kernel) rfl rfl (Nat.le_of_ble_eq_true rfl) dX12_push0_38 (fun H locs hP hD hS => ?_)
    have hP : va_P D vwCl [(h0, .inr (12, [.int m_thrown, .ref m_qworld, .ref m_qimages, .ref m_qhasImage, .ref m_qtape, .int m_taped, .ref m_qfive, .int m_size, .int m_at, .int m_from, .int m_token, .int m_value, .int m_faultKind, .int m_faultPlace, .ref m_qfresh, .int m_startOne, .int x_6, .int m_latest, .int m_leftBeats, .int m_signed, .int m_metMany, .ref m_qsums, .ref m_qpairs, .ref m_qgoesWith, .ref m_qsaid, .int m_saidMany, .int m_firstWait, .ref m_qfirstOrder, .int m_bundleFirst, .ref m_qtiredBy, .int m_tiredMany, .ref m_qmany, .ref m_qwidth, .ref m_qnumbers, .ref m_qmoving])), (m_qworld, .inl (cA 1, 122, .inl m_cworld))] H := hP
    have hD : va_D A [(h0, .inr (12, [.int m_thrown, .ref m_qworld, .ref m_qimages, .ref m_qhasImage, .ref m_qtape, .int m_taped, .ref m_qfive, .int m_size, .int m_at, .int m_from, .int m_token, .int m_value, .int m_faultKind, .int m_faultPlace, .ref m_qfresh, .int m_startOne, .int x_6, .int m_latest, .int m_leftBeats, .int m_signed, .int m_metMany, .ref m_qsums, .ref m_qpairs, .ref m_qgoesWith, .ref m_qsaid, .int m_saidMany, .int m_firstWait, .ref m_qfirstOrder, .int m_bundleFirst, .ref m_qtiredBy, .int m_tiredMany, .ref m_qmany, .ref m_qwidth, .ref m_qnumbers, .ref m_qmoving])), (m_qworld, .inl (cA 1, 122, .inl m_cworld))] := hD
    have hP9 := hP.sub (ws' := [(h0, .inr (12, [.int m_thrown, .ref m_qworld, .ref m_qimages, .ref m_qhasImage, .ref m_qtape, .int m_taped, .ref m_qfive, .int m_size, .int m_at, .int m_from, .int m_token, .int m_value, .int m_faultKind, .int m_faultPlace, .ref m_qfresh, .int m_startOne, .int x_6, .int m_latest, .int m_leftBeats, .int m_signed, .int m_metMany, .ref m_qsums, .ref m_qpairs, .ref m_qgoesWith, .ref m_qsaid, .int m_saidMany, .int m_firstWait, .ref m_qfirstOrder, .int m_bundleFirst, .ref m_qtiredBy, .int m_tiredMany, .ref m_qmany, .ref m_qwidth, .ref m_qnumbers, .ref m_qmoving])), (m_qworld, .inl (cA 1, 122, .inl m_cworld))]) [0, 1] rfl
    have hD9 := hD.sub (ws' := [(h0, .inr (12, [.int m_thrown, .ref m_qworld, .ref m_qimages, .ref m_qhasImage, .ref m_qtape, .int m_taped, .ref m_qfive, .int m_size, .int m_at, .int m_from, .int m_token, .int m_value, .int m_faultKind, .int m_faultPlace, .ref m_qfresh, .int m_startOne, .int x_6, .int m_latest, .int m_leftBeats, .int m_signed, .int m_metMany, .ref m_qsums, .ref m_qpairs, .ref m_qgoesWith, .ref m_qsaid, .int m_saidMany, .int m_firstWait, .ref m_qfirstOrder, .int m_bundleFirst, .ref m_qtiredBy, .int m_tiredMany, .ref m_qmany, .ref m_qwidth, .ref m_qnumbers, .ref m_qmoving])), (m_qworld, .inl (cA 1, 122, .inl m_cworld))]) [0, 1] (by decide) rfl
    exact W.vret hx hb hr (fun t ht hW => ⟨⟨((fun _ => 0), (selI [m_startOne, x_6]), (fun _ _ => 0), (fun _ _ => 0)), rfl, trivial, by rw [ht]; exact hP9, hD9⟩, hS.F ht⟩) hS.2.2 dX12_push0_41
  · skip
    have b_9 := i32_bd p0
    have k_8 := kk_eq rfl zi_0 c_1
    refine lv_aload_n hx hb dX12_push0_4 rfl (lv_at hl 0 rfl) ?_
    refine lv_aload_n hx hb dX12_push0_5 rfl (lv_at hl 0 rfl) ?_
    refine va_get (D := D) (ci := 12) (v := .int m_startOne) (C := RX12) (T := TX12) (N := 35) hx hb hts inX12 hown hKN.1 hP 0 rfl rfl 15 (by decide) (hts _ tw_1434) (fun _ h9 => h9) rfl dX12_push0_6 ?_
    refine lv_iload_n hx hb dX12_push0_9 rfl (lv_at hl 2 rfl) ?_
    refine lv_iadd hx hb dX12_push0_10 ?_
    refine lv_topi (fun x_10 ex_10 => ?_)
    refine lv_aload_n hx hb dX12_push0_11 rfl (lv_at hl 0 rfl) ?_
    refine va_get (D := D) (ci := 12) (v := .ref m_qworld) (C := RX12) (T := TX12) (N := 35) hx hb hts inX12 hown hKN.1 hP 0 rfl rfl 1 (by decide) (hts _ tw_1420) (fun _ h9 => h9) rfl dX12_push0_12 ?_
    refine lv_iconst (v := 0) hx hb dX12_push0_15 (by decide) ?_
    refine va_iald hx hb hKN.1 hP 1 1 rfl rfl (by unfold vp_in; decide) dX12_push0_16 ?_
    refine W.eq (g2 := F0 m 17 ls [.int (m_cworld 0), .int x_10, .ref h0]) rfl ?_
    refine lv_irem hx hb dX12_push0_17 (nz_i (by omega)) ?_
    refine lv_topi (fun x_12 ex_12 => ?_)
    refine va_put (D := D) (ci := 12) (v := .int x_12) (ty := .int) (C := RX12) (T := TX12) (N := 35) hx hb hts inX12 tyX12 tyX12_ok nmX12 hown hKN.1 hP hD hS 0 rfl rfl 15 (by decide) (hts _ tw_1434) (fun _ h9 => h9) rfl (by decide +kernel) rfl rfl (Nat.le_of_ble_eq_true rfl) dX12_push0_18 (fun H locs hP hD hS => ?_)
    have hP : va_P D vwCl [(h0, .inr (12, [.int m_thrown, .ref m_qworld, .ref m_qimages, .ref m_qhasImage, .ref m_qtape, .int m_taped, .ref m_qfive, .int m_size, .int m_at, .int m_from, .int m_token, .int m_value, .int m_faultKind, .int m_faultPlace, .ref m_qfresh, .int x_12, .int m_startOther, .int m_latest, .int m_leftBeats, .int m_signed, .int m_metMany, .ref m_qsums, .ref m_qpairs, .ref m_qgoesWith, .ref m_qsaid, .int m_saidMany, .int m_firstWait, .ref m_qfirstOrder, .int m_bundleFirst, .ref m_qtiredBy, .int m_tiredMany, .ref m_qmany, .ref m_qwidth, .ref m_qnumbers, .ref m_qmoving])), (m_qworld, .inl (cA 1, 122, .inl m_cworld))] H := hP
    have hD : va_D A [(h0, .inr (12, [.int m_thrown, .ref m_qworld, .ref m_qimages, .ref m_qhasImage, .ref m_qtape, .int m_taped, .ref m_qfive, .int m_size, .int m_at, .int m_from, .int m_token, .int m_value, .int m_faultKind, .int m_faultPlace, .ref m_qfresh, .int x_12, .int m_startOther, .int m_latest, .int m_leftBeats, .int m_signed, .int m_metMany, .ref m_qsums, .ref m_qpairs, .ref m_qgoesWith, .ref m_qsaid, .int m_saidMany, .int m_firstWait, .ref m_qfirstOrder, .int m_bundleFirst, .ref m_qtiredBy, .int m_tiredMany, .ref m_qmany, .ref m_qwidth, .ref m_qnumbers, .ref m_qmoving])), (m_qworld, .inl (cA 1, 122, .inl m_cworld))] := hD
    refine lv_goto (tgt := 41) hx hb dX12_push0_21 (by decide) ?_
    have hP9 := hP.sub (ws' := [(h0, .inr (12, [.int m_thrown, .ref m_qworld, .ref m_qimages, .ref m_qhasImage, .ref m_qtape, .int m_taped, .ref m_qfive, .int m_size, .int m_at, .int m_from, .int m_token, .int m_value, .int m_faultKind, .int m_faultPlace, .ref m_qfresh, .int x_12, .int m_startOther, .int m_latest, .int m_leftBeats, .int m_signed, .int m_metMany, .ref m_qsums, .ref m_qpairs, .ref m_qgoesWith, .ref m_qsaid, .int m_saidMany, .int m_firstWait, .ref m_qfirstOrder, .int m_bundleFirst, .ref m_qtiredBy, .int m_tiredMany, .ref m_qmany, .ref m_qwidth, .ref m_qnumbers, .ref m_qmoving])), (m_qworld, .inl (cA 1, 122, .inl m_cworld))]) [0, 1] rfl
    have hD9 := hD.sub (ws' := [(h0, .inr (12, [.int m_thrown, .ref m_qworld, .ref m_qimages, .ref m_qhasImage, .ref m_qtape, .int m_taped, .ref m_qfive, .int m_size, .int m_at, .int m_from, .int m_token, .int m_value, .int m_faultKind, .int m_faultPlace, .ref m_qfresh, .int x_12, .int m_startOther, .int m_latest, .int m_leftBeats, .int m_signed, .int m_metMany, .ref m_qsums, .ref m_qpairs, .ref m_qgoesWith, .ref m_qsaid, .int m_saidMany, .int m_firstWait, .ref m_qfirstOrder, .int m_bundleFirst, .ref m_qtiredBy, .int m_tiredMany, .ref m_qmany, .ref m_qwidth, .ref m_qnumbers, .ref m_qmoving])), (m_qworld, .inl (cA 1, 122, .inl m_cworld))]) [0, 1] (by decide) rfl
    exact W.vret hx hb hr (fun t ht hW => ⟨⟨((fun _ => 0), (selI [x_12, m_startOther]), (fun _ _ => 0), (fun _ _ => 0)), rfl, trivial, by rw [ht]; exact hP9, hD9⟩, hS.F ht⟩) hS.2.2 dX12_push0_41
set_option maxHeartbeats 8000000 in
set_option maxRecDepth 100000 in
theorem g_X12_man (l : Launch) (D : va_G) (cA : Nat → ClassId) (h0 : Nat) (m_thrown : Int32) (m_qworld : Nat) (m_qimages : Nat) (m_qhasImage : Nat) (m_qtape : Nat) (m_taped : Int32) (m_qfive : Nat) (m_size : Int32) (m_at : Int32) (m_from : Int32) (m_token : Int32) (m_value : Int32) (m_faultKind : Int32) (m_faultPlace : Int32) (m_qfresh : Nat) (m_startOne : Int32) (m_startOther : Int32) (m_latest : Int32) (m_leftBeats : Int32) (m_signed : Int32) (m_metMany : Int32) (m_qsums : Nat) (m_qpairs : Nat) (m_qgoesWith : Nat) (m_qsaid : Nat) (m_saidMany : Int32) (m_firstWait : Int32) (m_qfirstOrder : Nat) (m_bundleFirst : Int32) (m_qtiredBy : Nat) (m_tiredMany : Int32) (m_qmany : Nat) (m_qwidth : Nat) (m_qnumbers : Nat) (m_qmoving : Nat) (m_cworld : Nat → Int32) (p0 : Int32) (p1 : Int32) (h_m_taped : 0 ≤ (m_taped : Int32).toInt ∧ (m_taped : Int32).toInt ≤ 800) (h_m_size : 0 ≤ (m_size : Int32).toInt ∧ (m_size : Int32).toInt ≤ 800) (h_m_at : 0 ≤ (m_at : Int32).toInt ∧ (m_at : Int32).toInt ≤ 800) (h_m_from : 0 ≤ (m_from : Int32).toInt ∧ (m_from : Int32).toInt ≤ 800) (h_m_saidMany : 0 ≤ (m_saidMany : Int32).toInt ∧ (m_saidMany : Int32).toInt ≤ 60) (h_m_tiredMany : 0 ≤ (m_tiredMany : Int32).toInt ∧ (m_tiredMany : Int32).toInt ≤ 240) (a_m_cworld_0 : WI m_cworld) : Met l yX12_man (Cond.code yX12_man cX12_man 3 (some .int) :: TB) (rmd 2 0 0) (PP D cA [(h0, .inr (12, [.int m_thrown, .ref m_qworld, .ref m_qimages, .ref m_qhasImage, .ref m_qtape, .int m_taped, .ref m_qfive, .int m_size, .int m_at, .int m_from, .int m_token, .int m_value, .int m_faultKind, .int m_faultPlace, .ref m_qfresh, .int m_startOne, .int m_startOther, .int m_latest, .int m_leftBeats, .int m_signed, .int m_metMany, .ref m_qsums, .ref m_qpairs, .ref m_qgoesWith, .ref m_qsaid, .int m_saidMany, .int m_firstWait, .ref m_qfirstOrder, .int m_bundleFirst, .ref m_qtiredBy, .int m_tiredMany, .ref m_qmany, .ref m_qwidth, .ref m_qnumbers, .ref m_qmoving])), (m_qworld, .inl (cA 1, 122, .inl m_cworld))] [.ref h0, .int p0, .int p1]) (vp_Si (fun r => -2 ≤ r.toInt ∧ r.toInt ≤ 30)) 0 0 (fun _ => False) := by
  refine Met.ofW (cc := cX12_man) (maxL := 3) (ret := (some .int)) (by decide) rfl ?_
  intro p e s m args below meth c s₁ B hml hv
  obtain ⟨rfl, hP, hKN⟩ := hv
  have hx := B.exec
  have hb := B.bytes
  have hr := B.returns
  have hts : ∀ w ∈ TB, w.before _ s = true := fun w h => atoms_spec B.pre w (List.mem_cons_of_mem _ h)
  have hown : s.vm.findClass RX12 = some m.cls := findClass_of_methodNamed B.named
  have hlocks := B.notSynchronized
  have hl := lv_entry ([.ref h0, .int p0, .int p1]) (n := 3) (Nat.le_of_ble_eq_true rfl)
  rw [lg_entry_eq]
  generalize (lg_sl ([.ref h0, .int p0, .int p1]) ++ List.replicate (3 - (lg_sl ([.ref h0, .int p0, .int p1])).length) Slot.unset).toArray = ls at hl ⊢
  have hl : lv_has ls 3 [(0, .ref h0), (1, .int p0), (2, .int p1)] := hl
  refine lv_aload_n hx hb dX12_man_0 rfl (lv_at hl 0 rfl) ?_
  refine lv_iload_n hx hb dX12_man_1 rfl (lv_at hl 1 rfl) ?_
  obtain ⟨x_1, ex_1⟩ : ∃ y, p0.toInt64 = y := ⟨_, rfl⟩
  refine lv_i2l (v := x_1) hx hb dX12_man_2 ex_1 ?_
  have k_2 := tt_i2l ex_1
  refine cpVi (rest := []) ⟨hx, hb, hml, hown, hts⟩ hKN (hP.sub (ws' := [(h0, .inr (12, [.int m_thrown, .ref m_qworld, .ref m_qimages, .ref m_qhasImage, .ref m_qtape, .int m_taped, .ref m_qfive, .int m_size, .int m_at, .int m_from, .int m_token, .int m_value, .int m_faultKind, .int m_faultPlace, .ref m_qfresh, .int m_startOne, .int m_startOther, .int m_latest, .int m_leftBeats, .int m_signed, .int m_metMany, .ref m_qsums, .ref m_qpairs, .ref m_qgoesWith, .ref m_qsaid, .int m_saidMany, .int m_firstWait, .ref m_qfirstOrder, .int m_bundleFirst, .ref m_qtiredBy, .int m_tiredMany, .ref m_qmany, .ref m_qwidth, .ref m_qnumbers, .ref m_qmoving])), (m_qworld, .inl (cA 1, 122, .inl m_cworld))]) [0, 1] rfl) (g_X12_isMan l D cA h0 m_thrown m_qworld m_qimages m_qhasImage m_qtape m_taped m_qfive m_size m_at m_from m_token m_value m_faultKind m_faultPlace m_qfresh m_startOne m_startOther m_latest m_leftBeats m_signed m_metMany m_qsums m_qpairs m_qgoesWith m_qsaid m_saidMany m_firstWait m_qfirstOrder m_bundleFirst m_qtiredBy m_tiredMany m_qmany m_qwidth m_qnumbers m_qmoving m_cworld x_1 (by omega) (by omega) (by omega) (by omega) (by omega) (by omega) a_m_cworld_0) (tb_V tw_1636 tw_1638 tw_49 tw_114 tw_1639) hdX12_isMan ⟨rfl, rfl, Nat.le_of_ble_eq_true rfl, Nat.le_of_ble_eq_true rfl⟩ ⟨Nat.le_of_ble_eq_true rfl, Nat.le_of_ble_eq_true rfl⟩ rfl rfl rfl hl.1 rfl (Nat.le_of_ble_eq_true rfl) dX12_man_3 (fun r_3 hr_3 => ?_)
  rcases hr_3 with ⟨k_3_0_0, k_3_0_1, k_3_0_2, k_3_0_3, k_3_0_4, k_3_0_5, rfl⟩ | rfl
  · skip
    refine lv_if_eq (tgt := 30) hx hb dX12_man_6 (by decide) (fun c_4 => absurd c_4 (by decide)) (fun c_4 => ?_)
    refine lv_iload_n hx hb dX12_man_9 rfl (lv_at hl 2 rfl) ?_
    obtain ⟨x_5, ex_5⟩ : ∃ y, p1.toInt64 = y := ⟨_, rfl⟩
    refine lv_i2l (v := x_5) hx hb dX12_man_10 ex_5 ?_
    have k_6 := tt_i2l ex_5
    refine lv_lconst (v := 0) hx hb dX12_man_11 (by decide) ?_
    refine lv_ldc2 (v := 2) hx hb hown (hts _ tw_1529) dX12_man_12 ?_
    have z_7 := zj_0
    have z_8 := zj_2
    refine cpSi (rest := []) ⟨hx, hb, hml, hown, hts⟩ hKN (hP.sub (ws' := []) [] rfl) (g_X12_in l D cA x_5 0 2) (tb_S tw_1530 tw_1531 tw_114 tw_1532) hdX12_in ⟨rfl, rfl, Nat.le_of_ble_eq_true rfl, Nat.le_of_ble_eq_true rfl⟩ ⟨Nat.le_of_ble_eq_true rfl, Nat.le_of_ble_eq_true rfl⟩ rfl hl.1 rfl (Nat.le_of_ble_eq_true rfl) dX12_man_15 (fun r_9 hr_9 => ?_)
    rcases hr_9 with ⟨k_9_0_0, k_9_0_1, rfl⟩ | ⟨k_9_1_0, rfl⟩
    · skip
      refine lv_if_eq (tgt := 30) hx hb dX12_man_18 (by decide) (fun c_10 => absurd c_10 (by decide)) (fun c_10 => ?_)
      refine lv_aload_n hx hb dX12_man_21 rfl (lv_at hl 0 rfl) ?_
      refine lv_iload_n hx hb dX12_man_22 rfl (lv_at hl 1 rfl) ?_
      refine lv_iload_n hx hb dX12_man_23 rfl (lv_at hl 2 rfl) ?_
      refine cpVi (rest := []) ⟨hx, hb, hml, hown, hts⟩ hKN (hP.sub (ws' := [(h0, .inr (12, [.int m_thrown, .ref m_qworld, .ref m_qimages, .ref m_qhasImage, .ref m_qtape, .int m_taped, .ref m_qfive, .int m_size, .int m_at, .int m_from, .int m_token, .int m_value, .int m_faultKind, .int m_faultPlace, .ref m_qfresh, .int m_startOne, .int m_startOther, .int m_latest, .int m_leftBeats, .int m_signed, .int m_metMany, .ref m_qsums, .ref m_qpairs, .ref m_qgoesWith, .ref m_qsaid, .int m_saidMany, .int m_firstWait, .ref m_qfirstOrder, .int m_bundleFirst, .ref m_qtiredBy, .int m_tiredMany, .ref m_qmany, .ref m_qwidth, .ref m_qnumbers, .ref m_qmoving])), (m_qworld, .inl (cA 1, 122, .inl m_cworld))]) [0, 1] rfl) (g_X12_of l D cA h0 m_thrown m_qworld m_qimages m_qhasImage m_qtape m_taped m_qfive m_size m_at m_from m_token m_value m_faultKind m_faultPlace m_qfresh m_startOne m_startOther m_latest m_leftBeats m_signed m_metMany m_qsums m_qpairs m_qgoesWith m_qsaid m_saidMany m_firstWait m_qfirstOrder m_bundleFirst m_qtiredBy m_tiredMany m_qmany m_qwidth m_qnumbers m_qmoving m_cworld p0 p1 (by omega) (by omega) (by omega) (by omega) (by omega) (by omega) (by omega) (by omega) a_m_cworld_0) (tb_V tw_1640 tw_1642 tw_50 tw_114 tw_1643) hdX12_of ⟨rfl, rfl, Nat.le_of_ble_eq_true rfl, Nat.le_of_ble_eq_true rfl⟩ ⟨Nat.le_of_ble_eq_true rfl, Nat.le_of_ble_eq_true rfl⟩ rfl rfl rfl hl.1 rfl (Nat.le_of_ble_eq_true rfl) dX12_man_24 (fun r_11 hr_11 => ?_)
      obtain ⟨k_11_0_0, k_11_0_1⟩ := hr_11
      refine lv_goto (tgt := 32) hx hb dX12_man_27 (by decide) ?_
      exact W.iret (v := r_11) hx hb hr (fun t ht hW => ⟨r_11, rfl, (show -2 ≤ r_11.toInt ∧ r_11.toInt ≤ 30 from by omega), ht⟩) (fun _ h => by cases h) dX12_man_32
    · skip
      refine lv_if_eq (tgt := 30) hx hb dX12_man_18 (by decide) (fun c_12 => ?_) (fun c_12 => absurd (by decide) c_12)
      refine lv_bipush (v := (-2)) hx hb dX12_man_30 (by decide) ?_
      exact W.iret (v := (-2)) hx hb hr (fun t ht hW => ⟨(-2), rfl, (show -2 ≤ ((-2) : Int32).toInt ∧ ((-2) : Int32).toInt ≤ 30 from by decide), ht⟩) (fun _ h => by cases h) dX12_man_32
  · skip
    refine lv_if_eq (tgt := 30) hx hb dX12_man_6 (by decide) (fun c_13 => ?_) (fun c_13 => absurd (by decide) c_13)
    refine lv_bipush (v := (-2)) hx hb dX12_man_30 (by decide) ?_
    exact W.iret (v := (-2)) hx hb hr (fun t ht hW => ⟨(-2), rfl, (show -2 ≤ ((-2) : Int32).toInt ∧ ((-2) : Int32).toInt ≤ 30 from by decide), ht⟩) (fun _ h => by cases h) dX12_man_32
set_option maxHeartbeats 8000000 in
set_option maxRecDepth 100000 in
theorem g_X12_clause (l : Launch) (D : va_G) (cA : Nat → ClassId) (h0 : Nat) (m_thrown : Int32) (m_qworld : Nat) (m_qimages : Nat) (m_qhasImage : Nat) (m_qtape : Nat) (m_taped : Int32) (m_qfive : Nat) (m_size : Int32) (m_at : Int32) (m_from : Int32) (m_token : Int32) (m_value : Int32) (m_faultKind : Int32) (m_faultPlace : Int32) (m_qfresh : Nat) (m_startOne : Int32) (m_startOther : Int32) (m_latest : Int32) (m_leftBeats : Int32) (m_signed : Int32) (m_metMany : Int32) (m_qsums : Nat) (m_qpairs : Nat) (m_qgoesWith : Nat) (m_qsaid : Nat) (m_saidMany : Int32) (m_firstWait : Int32) (m_qfirstOrder : Nat) (m_bundleFirst : Int32) (m_qtiredBy : Nat) (m_tiredMany : Int32) (m_qmany : Nat) (m_qwidth : Nat) (m_qnumbers : Nat) (m_qmoving : Nat) (m_cworld : Nat → Int32) (p0 : Int32) (p1 : Int32) (h_m_taped : 0 ≤ (m_taped : Int32).toInt ∧ (m_taped : Int32).toInt ≤ 800) (h_m_size : 0 ≤ (m_size : Int32).toInt ∧ (m_size : Int32).toInt ≤ 800) (h_m_at : 0 ≤ (m_at : Int32).toInt ∧ (m_at : Int32).toInt ≤ 800) (h_m_from : 0 ≤ (m_from : Int32).toInt ∧ (m_from : Int32).toInt ≤ 800) (h_m_saidMany : 0 ≤ (m_saidMany : Int32).toInt ∧ (m_saidMany : Int32).toInt ≤ 60) (h_m_tiredMany : 0 ≤ (m_tiredMany : Int32).toInt ∧ (m_tiredMany : Int32).toInt ≤ 240) (a_m_cworld_0 : WI m_cworld) : Met l yX12_clause (Cond.code yX12_clause cX12_clause 3 (some .int) :: TB) (rmd 2 0 0) (PP D cA [(h0, .inr (12, [.int m_thrown, .ref m_qworld, .ref m_qimages, .ref m_qhasImage, .ref m_qtape, .int m_taped, .ref m_qfive, .int m_size, .int m_at, .int m_from, .int m_token, .int m_value, .int m_faultKind, .int m_faultPlace, .ref m_qfresh, .int m_startOne, .int m_startOther, .int m_latest, .int m_leftBeats, .int m_signed, .int m_metMany, .ref m_qsums, .ref m_qpairs, .ref m_qgoesWith, .ref m_qsaid, .int m_saidMany, .int m_firstWait, .ref m_qfirstOrder, .int m_bundleFirst, .ref m_qtiredBy, .int m_tiredMany, .ref m_qmany, .ref m_qwidth, .ref m_qnumbers, .ref m_qmoving])), (m_qworld, .inl (cA 1, 122, .inl m_cworld))] [.ref h0, .int p0, .int p1]) (vp_Si (fun r => -1000 ≤ r.toInt ∧ r.toInt ≤ 99)) 0 0 (fun _ => False) := by
  refine Met.ofW (cc := cX12_clause) (maxL := 3) (ret := (some .int)) (by decide) rfl ?_
  intro p e s m args below meth c s₁ B hml hv
  obtain ⟨rfl, hP, hKN⟩ := hv
  have hx := B.exec
  have hb := B.bytes
  have hr := B.returns
  have hts : ∀ w ∈ TB, w.before _ s = true := fun w h => atoms_spec B.pre w (List.mem_cons_of_mem _ h)
  have hown : s.vm.findClass RX12 = some m.cls := findClass_of_methodNamed B.named
  have hlocks := B.notSynchronized
  have hl := lv_entry ([.ref h0, .int p0, .int p1]) (n := 3) (Nat.le_of_ble_eq_true rfl)
  rw [lg_entry_eq]
  generalize (lg_sl ([.ref h0, .int p0, .int p1]) ++ List.replicate (3 - (lg_sl ([.ref h0, .int p0, .int p1])).length) Slot.unset).toArray = ls at hl ⊢
  have hl : lv_has ls 3 [(0, .ref h0), (1, .int p0), (2, .int p1)] := hl
  refine lv_aload_n hx hb dX12_clause_0 rfl (lv_at hl 0 rfl) ?_
  refine lv_iload_n hx hb dX12_clause_1 rfl (lv_at hl 1 rfl) ?_
  obtain ⟨x_1, ex_1⟩ : ∃ y, p0.toInt64 = y := ⟨_, rfl⟩
  refine lv_i2l (v := x_1) hx hb dX12_clause_2 ex_1 ?_
  have k_2 := tt_i2l ex_1
  refine cpVi (rest := []) ⟨hx, hb, hml, hown, hts⟩ hKN (hP.sub (ws' := [(h0, .inr (12, [.int m_thrown, .ref m_qworld, .ref m_qimages, .ref m_qhasImage, .ref m_qtape, .int m_taped, .ref m_qfive, .int m_size, .int m_at, .int m_from, .int m_token, .int m_value, .int m_faultKind, .int m_faultPlace, .ref m_qfresh, .int m_startOne, .int m_startOther, .int m_latest, .int m_leftBeats, .int m_signed, .int m_metMany, .ref m_qsums, .ref m_qpairs, .ref m_qgoesWith, .ref m_qsaid, .int m_saidMany, .int m_firstWait, .ref m_qfirstOrder, .int m_bundleFirst, .ref m_qtiredBy, .int m_tiredMany, .ref m_qmany, .ref m_qwidth, .ref m_qnumbers, .ref m_qmoving])), (m_qworld, .inl (cA 1, 122, .inl m_cworld))]) [0, 1] rfl) (g_X12_isClause l D cA h0 m_thrown m_qworld m_qimages m_qhasImage m_qtape m_taped m_qfive m_size m_at m_from m_token m_value m_faultKind m_faultPlace m_qfresh m_startOne m_startOther m_latest m_leftBeats m_signed m_metMany m_qsums m_qpairs m_qgoesWith m_qsaid m_saidMany m_firstWait m_qfirstOrder m_bundleFirst m_qtiredBy m_tiredMany m_qmany m_qwidth m_qnumbers m_qmoving m_cworld x_1 (by omega) (by omega) (by omega) (by omega) (by omega) (by omega) a_m_cworld_0) (tb_V tw_1648 tw_1650 tw_51 tw_114 tw_1651) hdX12_isClause ⟨rfl, rfl, Nat.le_of_ble_eq_true rfl, Nat.le_of_ble_eq_true rfl⟩ ⟨Nat.le_of_ble_eq_true rfl, Nat.le_of_ble_eq_true rfl⟩ rfl rfl rfl hl.1 rfl (Nat.le_of_ble_eq_true rfl) dX12_clause_3 (fun r_3 hr_3 => ?_)
  rcases hr_3 with ⟨k_3_0_0, k_3_0_1, k_3_0_2, k_3_0_3, k_3_0_4, k_3_0_5, rfl⟩ | rfl
  · skip
    refine lv_if_eq (tgt := 30) hx hb dX12_clause_6 (by decide) (fun c_4 => absurd c_4 (by decide)) (fun c_4 => ?_)
    refine lv_iload_n hx hb dX12_clause_9 rfl (lv_at hl 2 rfl) ?_
    obtain ⟨x_5, ex_5⟩ : ∃ y, p1.toInt64 = y := ⟨_, rfl⟩
    refine lv_i2l (v := x_5) hx hb dX12_clause_10 ex_5 ?_
    have k_6 := tt_i2l ex_5
    refine lv_lconst (v := 0) hx hb dX12_clause_11 (by decide) ?_
    refine lv_ldc2 (v := 2) hx hb hown (hts _ tw_1529) dX12_clause_12 ?_
    have z_7 := zj_0
    have z_8 := zj_2
    refine cpSi (rest := []) ⟨hx, hb, hml, hown, hts⟩ hKN (hP.sub (ws' := []) [] rfl) (g_X12_in l D cA x_5 0 2) (tb_S tw_1530 tw_1531 tw_114 tw_1532) hdX12_in ⟨rfl, rfl, Nat.le_of_ble_eq_true rfl, Nat.le_of_ble_eq_true rfl⟩ ⟨Nat.le_of_ble_eq_true rfl, Nat.le_of_ble_eq_true rfl⟩ rfl hl.1 rfl (Nat.le_of_ble_eq_true rfl) dX12_clause_15 (fun r_9 hr_9 => ?_)
    rcases hr_9 with ⟨k_9_0_0, k_9_0_1, rfl⟩ | ⟨k_9_1_0, rfl⟩
    · skip
      refine lv_if_eq (tgt := 30) hx hb dX12_clause_18 (by decide) (fun c_10 => absurd c_10 (by decide)) (fun c_10 => ?_)
      refine lv_aload_n hx hb dX12_clause_21 rfl (lv_at hl 0 rfl) ?_
      refine lv_iload_n hx hb dX12_clause_22 rfl (lv_at hl 1 rfl) ?_
      refine lv_iload_n hx hb dX12_clause_23 rfl (lv_at hl 2 rfl) ?_
      refine cpVi (rest := []) ⟨hx, hb, hml, hown, hts⟩ hKN (hP.sub (ws' := [(h0, .inr (12, [.int m_thrown, .ref m_qworld, .ref m_qimages, .ref m_qhasImage, .ref m_qtape, .int m_taped, .ref m_qfive, .int m_size, .int m_at, .int m_from, .int m_token, .int m_value, .int m_faultKind, .int m_faultPlace, .ref m_qfresh, .int m_startOne, .int m_startOther, .int m_latest, .int m_leftBeats, .int m_signed, .int m_metMany, .ref m_qsums, .ref m_qpairs, .ref m_qgoesWith, .ref m_qsaid, .int m_saidMany, .int m_firstWait, .ref m_qfirstOrder, .int m_bundleFirst, .ref m_qtiredBy, .int m_tiredMany, .ref m_qmany, .ref m_qwidth, .ref m_qnumbers, .ref m_qmoving])), (m_qworld, .inl (cA 1, 122, .inl m_cworld))]) [0, 1] rfl) (g_X12_ofClause l D cA h0 m_thrown m_qworld m_qimages m_qhasImage m_qtape m_taped m_qfive m_size m_at m_from m_token m_value m_faultKind m_faultPlace m_qfresh m_startOne m_startOther m_latest m_leftBeats m_signed m_metMany m_qsums m_qpairs m_qgoesWith m_qsaid m_saidMany m_firstWait m_qfirstOrder m_bundleFirst m_qtiredBy m_tiredMany m_qmany m_qwidth m_qnumbers m_qmoving m_cworld p0 p1 (by omega) (by omega) (by omega) (by omega) (by omega) (by omega) (by omega) (by omega) a_m_cworld_0) (tb_V tw_1652 tw_1654 tw_52 tw_114 tw_1655) hdX12_ofClause ⟨rfl, rfl, Nat.le_of_ble_eq_true rfl, Nat.le_of_ble_eq_true rfl⟩ ⟨Nat.le_of_ble_eq_true rfl, Nat.le_of_ble_eq_true rfl⟩ rfl rfl rfl hl.1 rfl (Nat.le_of_ble_eq_true rfl) dX12_clause_24 (fun r_11 hr_11 => ?_)
      refine lv_goto (tgt := 33) hx hb dX12_clause_27 (by decide) ?_
      exact W.iret (v := r_11) hx hb hr (fun t ht hW => ⟨r_11, rfl, (show -1000 ≤ r_11.toInt ∧ r_11.toInt ≤ 99 from by omega), ht⟩) (fun _ h => by cases h) dX12_clause_33
    · skip
      refine lv_if_eq (tgt := 30) hx hb dX12_clause_18 (by decide) (fun c_12 => ?_) (fun c_12 => absurd (by decide) c_12)
      refine lv_sipush (v := (-1000)) hx hb dX12_clause_30 (by decide) ?_
      exact W.iret (v := (-1000)) hx hb hr (fun t ht hW => ⟨(-1000), rfl, (show -1000 ≤ ((-1000) : Int32).toInt ∧ ((-1000) : Int32).toInt ≤ 99 from by decide), ht⟩) (fun _ h => by cases h) dX12_clause_33
  · skip
    refine lv_if_eq (tgt := 30) hx hb dX12_clause_6 (by decide) (fun c_13 => ?_) (fun c_13 => absurd (by decide) c_13)
    refine lv_sipush (v := (-1000)) hx hb dX12_clause_30 (by decide) ?_
    exact W.iret (v := (-1000)) hx hb hr (fun t ht hW => ⟨(-1000), rfl, (show -1000 ≤ ((-1000) : Int32).toInt ∧ ((-1000) : Int32).toInt ≤ 99 from by decide), ht⟩) (fun _ h => by cases h) dX12_clause_33
set_option maxHeartbeats 8000000 in
set_option maxRecDepth 100000 in
theorem g_X12_hold (l : Launch) (D : va_G) (cA : Nat → ClassId) (h0 : Nat) (m_thrown : Int32) (m_qworld : Nat) (m_qimages : Nat) (m_qhasImage : Nat) (m_qtape : Nat) (m_taped : Int32) (m_qfive : Nat) (m_size : Int32) (m_at : Int32) (m_from : Int32) (m_token : Int32) (m_value : Int32) (m_faultKind : Int32) (m_faultPlace : Int32) (m_qfresh : Nat) (m_startOne : Int32) (m_startOther : Int32) (m_latest : Int32) (m_leftBeats : Int32) (m_signed : Int32) (m_metMany : Int32) (m_qsums : Nat) (m_qpairs : Nat) (m_qgoesWith : Nat) (m_qsaid : Nat) (m_saidMany : Int32) (m_firstWait : Int32) (m_qfirstOrder : Nat) (m_bundleFirst : Int32) (m_qtiredBy : Nat) (m_tiredMany : Int32) (m_qmany : Nat) (m_qwidth : Nat) (m_qnumbers : Nat) (m_qmoving : Nat) (m_cworld : Nat → Int32) (p0 : Int32) (p1 : Int32) (h_m_taped : 0 ≤ (m_taped : Int32).toInt ∧ (m_taped : Int32).toInt ≤ 800) (h_m_size : 0 ≤ (m_size : Int32).toInt ∧ (m_size : Int32).toInt ≤ 800) (h_m_at : 0 ≤ (m_at : Int32).toInt ∧ (m_at : Int32).toInt ≤ 800) (h_m_from : 0 ≤ (m_from : Int32).toInt ∧ (m_from : Int32).toInt ≤ 800) (h_m_saidMany : 0 ≤ (m_saidMany : Int32).toInt ∧ (m_saidMany : Int32).toInt ≤ 60) (h_m_tiredMany : 0 ≤ (m_tiredMany : Int32).toInt ∧ (m_tiredMany : Int32).toInt ≤ 240) (a_m_cworld_0 : WI m_cworld) : Met l yX12_hold (Cond.code yX12_hold cX12_hold 3 (some .int) :: TB) (rmd 4 0 0) (PP D cA [(h0, .inr (12, [.int m_thrown, .ref m_qworld, .ref m_qimages, .ref m_qhasImage, .ref m_qtape, .int m_taped, .ref m_qfive, .int m_size, .int m_at, .int m_from, .int m_token, .int m_value, .int m_faultKind, .int m_faultPlace, .ref m_qfresh, .int m_startOne, .int m_startOther, .int m_latest, .int m_leftBeats, .int m_signed, .int m_metMany, .ref m_qsums, .ref m_qpairs, .ref m_qgoesWith, .ref m_qsaid, .int m_saidMany, .int m_firstWait, .ref m_qfirstOrder, .int m_bundleFirst, .ref m_qtiredBy, .int m_tiredMany, .ref m_qmany, .ref m_qwidth, .ref m_qnumbers, .ref m_qmoving])), (m_qworld, .inl (cA 1, 122, .inl m_cworld))] [.ref h0, .int p0, .int p1]) (vp_Si (fun r => True)) 0 0 (fun _ => False) := by
  refine Met.ofW (cc := cX12_hold) (maxL := 3) (ret := (some .int)) (by decide) rfl ?_
  intro p e s m args below meth c s₁ B hml hv
  obtain ⟨rfl, hP, hKN⟩ := hv
  have hx := B.exec
  have hb := B.bytes
  have hr := B.returns
  have hts : ∀ w ∈ TB, w.before _ s = true := fun w h => atoms_spec B.pre w (List.mem_cons_of_mem _ h)
  have hown : s.vm.findClass RX12 = some m.cls := findClass_of_methodNamed B.named
  have hlocks := B.notSynchronized
  have hl := lv_entry ([.ref h0, .int p0, .int p1]) (n := 3) (Nat.le_of_ble_eq_true rfl)
  rw [lg_entry_eq]
  generalize (lg_sl ([.ref h0, .int p0, .int p1]) ++ List.replicate (3 - (lg_sl ([.ref h0, .int p0, .int p1])).length) Slot.unset).toArray = ls at hl ⊢
  have hl : lv_has ls 3 [(0, .ref h0), (1, .int p0), (2, .int p1)] := hl
  refine lv_aload_n hx hb dX12_hold_0 rfl (lv_at hl 0 rfl) ?_
  refine lv_iload_n hx hb dX12_hold_1 rfl (lv_at hl 1 rfl) ?_
  refine lv_iload_n hx hb dX12_hold_2 rfl (lv_at hl 2 rfl) ?_
  refine cpVi (rest := []) ⟨hx, hb, hml, hown, hts⟩ hKN (hP.sub (ws' := [(h0, .inr (12, [.int m_thrown, .ref m_qworld, .ref m_qimages, .ref m_qhasImage, .ref m_qtape, .int m_taped, .ref m_qfive, .int m_size, .int m_at, .int m_from, .int m_token, .int m_value, .int m_faultKind, .int m_faultPlace, .ref m_qfresh, .int m_startOne, .int m_startOther, .int m_latest, .int m_leftBeats, .int m_signed, .int m_metMany, .ref m_qsums, .ref m_qpairs, .ref m_qgoesWith, .ref m_qsaid, .int m_saidMany, .int m_firstWait, .ref m_qfirstOrder, .int m_bundleFirst, .ref m_qtiredBy, .int m_tiredMany, .ref m_qmany, .ref m_qwidth, .ref m_qnumbers, .ref m_qmoving])), (m_qworld, .inl (cA 1, 122, .inl m_cworld))]) [0, 1] rfl) (g_X12_areMen l D cA h0 m_thrown m_qworld m_qimages m_qhasImage m_qtape m_taped m_qfive m_size m_at m_from m_token m_value m_faultKind m_faultPlace m_qfresh m_startOne m_startOther m_latest m_leftBeats m_signed m_metMany m_qsums m_qpairs m_qgoesWith m_qsaid m_saidMany m_firstWait m_qfirstOrder m_bundleFirst m_qtiredBy m_tiredMany m_qmany m_qwidth m_qnumbers m_qmoving m_cworld p0 p1 (by omega) (by omega) (by omega) (by omega) (by omega) (by omega) a_m_cworld_0) (tb_V tw_1771 tw_1773 tw_68 tw_114 tw_1774) hdX12_areMen ⟨rfl, rfl, Nat.le_of_ble_eq_true rfl, Nat.le_of_ble_eq_true rfl⟩ ⟨Nat.le_of_ble_eq_true rfl, Nat.le_of_ble_eq_true rfl⟩ rfl rfl rfl hl.1 rfl (Nat.le_of_ble_eq_true rfl) dX12_hold_3 (fun r_1 hr_1 => ?_)
  rcases hr_1 with ⟨k_1_0_0, k_1_0_1, k_1_0_2, k_1_0_3, k_1_0_4, k_1_0_5, k_1_0_6, k_1_0_7, rfl⟩ | rfl
  · skip
    refine lv_if_ne (tgt := 12) hx hb dX12_hold_6 (by decide) (fun c_2 => ?_) (fun c_2 => absurd c_2 (by decide))
    refine lv_aload_n hx hb dX12_hold_12 rfl (lv_at hl 0 rfl) ?_
    refine lv_iload_n hx hb dX12_hold_13 rfl (lv_at hl 1 rfl) ?_
    refine lv_iload_n hx hb dX12_hold_14 rfl (lv_at hl 2 rfl) ?_
    refine cpVi (rest := []) ⟨hx, hb, hml, hown, hts⟩ hKN (hP.sub (ws' := [(h0, .inr (12, [.int m_thrown, .ref m_qworld, .ref m_qimages, .ref m_qhasImage, .ref m_qtape, .int m_taped, .ref m_qfive, .int m_size, .int m_at, .int m_from, .int m_token, .int m_value, .int m_faultKind, .int m_faultPlace, .ref m_qfresh, .int m_startOne, .int m_startOther, .int m_latest, .int m_leftBeats, .int m_signed, .int m_metMany, .ref m_qsums, .ref m_qpairs, .ref m_qgoesWith, .ref m_qsaid, .int m_saidMany, .int m_firstWait, .ref m_qfirstOrder, .int m_bundleFirst, .ref m_qtiredBy, .int m_tiredMany, .ref m_qmany, .ref m_qwidth, .ref m_qnumbers, .ref m_qmoving])), (m_qworld, .inl (cA 1, 122, .inl m_cworld))]) [0, 1] rfl) (g_X12_isPair l D cA h0 m_thrown m_qworld m_qimages m_qhasImage m_qtape m_taped m_qfive m_size m_at m_from m_token m_value m_faultKind m_faultPlace m_qfresh m_startOne m_startOther m_latest m_leftBeats m_signed m_metMany m_qsums m_qpairs m_qgoesWith m_qsaid m_saidMany m_firstWait m_qfirstOrder m_bundleFirst m_qtiredBy m_tiredMany m_qmany m_qwidth m_qnumbers m_qmoving m_cworld p0 p1 (by omega) (by omega) (by omega) (by omega) (by omega) (by omega) (by omega) (by omega) a_m_cworld_0) (tb_V tw_1775 tw_1777 tw_69 tw_114 tw_1778) hdX12_isPair ⟨rfl, rfl, Nat.le_of_ble_eq_true rfl, Nat.le_of_ble_eq_true rfl⟩ ⟨Nat.le_of_ble_eq_true rfl, Nat.le_of_ble_eq_true rfl⟩ rfl rfl rfl hl.1 rfl (Nat.le_of_ble_eq_true rfl) dX12_hold_15 (fun r_3 hr_3 => ?_)
    refine lv_if_eq (tgt := 30) hx hb dX12_hold_18 (by decide) (fun c_4 => ?_) (fun c_4 => ?_)
    · skip
      have k_5 := kk_eq rfl zi_0 c_4
      refine lv_iconst (v := (-1)) hx hb dX12_hold_30 (by decide) ?_
      exact W.iret (v := (-1)) hx hb hr (fun t ht hW => ⟨(-1), rfl, trivial, ht⟩) (fun _ h => by cases h) dX12_hold_31
    · skip
      have k_6 := kk_ne rfl zi_0 c_4
      refine lv_aload_n hx hb dX12_hold_21 rfl (lv_at hl 0 rfl) ?_
      refine lv_iload_n hx hb dX12_hold_22 rfl (lv_at hl 1 rfl) ?_
      refine lv_iload_n hx hb dX12_hold_23 rfl (lv_at hl 2 rfl) ?_
      refine cpVi (rest := []) ⟨hx, hb, hml, hown, hts⟩ hKN (hP.sub (ws' := [(h0, .inr (12, [.int m_thrown, .ref m_qworld, .ref m_qimages, .ref m_qhasImage, .ref m_qtape, .int m_taped, .ref m_qfive, .int m_size, .int m_at, .int m_from, .int m_token, .int m_value, .int m_faultKind, .int m_faultPlace, .ref m_qfresh, .int m_startOne, .int m_startOther, .int m_latest, .int m_leftBeats, .int m_signed, .int m_metMany, .ref m_qsums, .ref m_qpairs, .ref m_qgoesWith, .ref m_qsaid, .int m_saidMany, .int m_firstWait, .ref m_qfirstOrder, .int m_bundleFirst, .ref m_qtiredBy, .int m_tiredMany, .ref m_qmany, .ref m_qwidth, .ref m_qnumbers, .ref m_qmoving])), (m_qworld, .inl (cA 1, 122, .inl m_cworld))]) [0, 1] rfl) (g_X12_holdOf l D cA h0 m_thrown m_qworld m_qimages m_qhasImage m_qtape m_taped m_qfive m_size m_at m_from m_token m_value m_faultKind m_faultPlace m_qfresh m_startOne m_startOther m_latest m_leftBeats m_signed m_metMany m_qsums m_qpairs m_qgoesWith m_qsaid m_saidMany m_firstWait m_qfirstOrder m_bundleFirst m_qtiredBy m_tiredMany m_qmany m_qwidth m_qnumbers m_qmoving m_cworld p0 p1 (by omega) (by omega) (by omega) (by omega) (by omega) (by omega) (by omega) (by omega) a_m_cworld_0) (tb_V tw_1700 tw_1702 tw_63 tw_114 tw_1703) hdX12_holdOf ⟨rfl, rfl, Nat.le_of_ble_eq_true rfl, Nat.le_of_ble_eq_true rfl⟩ ⟨Nat.le_of_ble_eq_true rfl, Nat.le_of_ble_eq_true rfl⟩ rfl rfl rfl hl.1 rfl (Nat.le_of_ble_eq_true rfl) dX12_hold_24 (fun r_7 hr_7 => ?_)
      refine lv_goto (tgt := 31) hx hb dX12_hold_27 (by decide) ?_
      exact W.iret (v := r_7) hx hb hr (fun t ht hW => ⟨r_7, rfl, trivial, ht⟩) (fun _ h => by cases h) dX12_hold_31
  · skip
    refine lv_if_ne (tgt := 12) hx hb dX12_hold_6 (by decide) (fun c_8 => absurd (by decide) c_8) (fun c_8 => ?_)
    refine lv_bipush (v := (-2)) hx hb dX12_hold_9 (by decide) ?_
    exact W.iret (v := (-2)) hx hb hr (fun t ht hW => ⟨(-2), rfl, trivial, ht⟩) (fun _ h => by cases h) dX12_hold_11
set_option maxHeartbeats 8000000 in
set_option maxRecDepth 100000 in
theorem g_X12_pair (l : Launch) (D : va_G) (cA : Nat → ClassId) (h0 : Nat) (m_thrown : Int32) (m_qworld : Nat) (m_qimages : Nat) (m_qhasImage : Nat) (m_qtape : Nat) (m_taped : Int32) (m_qfive : Nat) (m_size : Int32) (m_at : Int32) (m_from : Int32) (m_token : Int32) (m_value : Int32) (m_faultKind : Int32) (m_faultPlace : Int32) (m_qfresh : Nat) (m_startOne : Int32) (m_startOther : Int32) (m_latest : Int32) (m_leftBeats : Int32) (m_signed : Int32) (m_metMany : Int32) (m_qsums : Nat) (m_qpairs : Nat) (m_qgoesWith : Nat) (m_qsaid : Nat) (m_saidMany : Int32) (m_firstWait : Int32) (m_qfirstOrder : Nat) (m_bundleFirst : Int32) (m_qtiredBy : Nat) (m_tiredMany : Int32) (m_qmany : Nat) (m_qwidth : Nat) (m_qnumbers : Nat) (m_qmoving : Nat) (m_cworld : Nat → Int32) (h_m_taped : 0 ≤ (m_taped : Int32).toInt ∧ (m_taped : Int32).toInt ≤ 800) (h_m_size : 0 ≤ (m_size : Int32).toInt ∧ (m_size : Int32).toInt ≤ 800) (h_m_at : 0 ≤ (m_at : Int32).toInt ∧ (m_at : Int32).toInt ≤ 800) (h_m_from : 0 ≤ (m_from : Int32).toInt ∧ (m_from : Int32).toInt ≤ 800) (h_m_saidMany : 0 ≤ (m_saidMany : Int32).toInt ∧ (m_saidMany : Int32).toInt ≤ 60) (h_m_tiredMany : 0 ≤ (m_tiredMany : Int32).toInt ∧ (m_tiredMany : Int32).toInt ≤ 240) (a_m_cworld_0 : WI m_cworld) : Met l yX12_pair (Cond.code yX12_pair cX12_pair 5 (some .int) :: TB) (rmd 4 0 0) (PP D cA [(h0, .inr (12, [.int m_thrown, .ref m_qworld, .ref m_qimages, .ref m_qhasImage, .ref m_qtape, .int m_taped, .ref m_qfive, .int m_size, .int m_at, .int m_from, .int m_token, .int m_value, .int m_faultKind, .int m_faultPlace, .ref m_qfresh, .int m_startOne, .int m_startOther, .int m_latest, .int m_leftBeats, .int m_signed, .int m_metMany, .ref m_qsums, .ref m_qpairs, .ref m_qgoesWith, .ref m_qsaid, .int m_saidMany, .int m_firstWait, .ref m_qfirstOrder, .int m_bundleFirst, .ref m_qtiredBy, .int m_tiredMany, .ref m_qmany, .ref m_qwidth, .ref m_qnumbers, .ref m_qmoving])), (m_qworld, .inl (cA 1, 122, .inl m_cworld))] [.ref h0]) (vp_Si (fun r => -2 ≤ r.toInt ∧ r.toInt ≤ 77)) 0 0 (fun _ => False) := by
  refine Met.ofW (cc := cX12_pair) (maxL := 5) (ret := (some .int)) (by decide) rfl ?_
  intro p e s m args below meth c s₁ B hml hv
  obtain ⟨rfl, hP, hKN⟩ := hv
  have hx := B.exec
  have hb := B.bytes
  have hr := B.returns
  have hts : ∀ w ∈ TB, w.before _ s = true := fun w h => atoms_spec B.pre w (List.mem_cons_of_mem _ h)
  have hown : s.vm.findClass RX12 = some m.cls := findClass_of_methodNamed B.named
  have hlocks := B.notSynchronized
  have hl := lv_entry ([.ref h0]) (n := 5) (Nat.le_of_ble_eq_true rfl)
  rw [lg_entry_eq]
  generalize (lg_sl ([.ref h0]) ++ List.replicate (5 - (lg_sl ([.ref h0])).length) Slot.unset).toArray = ls at hl ⊢
  have hl : lv_has ls 5 [(0, .ref h0)] := hl
  refine lv_aload_n hx hb dX12_pair_0 rfl (lv_at hl 0 rfl) ?_
  refine cpVi (rest := []) ⟨hx, hb, hml, hown, hts⟩ hKN (hP.sub (ws' := [(h0, .inr (12, [.int m_thrown, .ref m_qworld, .ref m_qimages, .ref m_qhasImage, .ref m_qtape, .int m_taped, .ref m_qfive, .int m_size, .int m_at, .int m_from, .int m_token, .int m_value, .int m_faultKind, .int m_faultPlace, .ref m_qfresh, .int m_startOne, .int m_startOther, .int m_latest, .int m_leftBeats, .int m_signed, .int m_metMany, .ref m_qsums, .ref m_qpairs, .ref m_qgoesWith, .ref m_qsaid, .int m_saidMany, .int m_firstWait, .ref m_qfirstOrder, .int m_bundleFirst, .ref m_qtiredBy, .int m_tiredMany, .ref m_qmany, .ref m_qwidth, .ref m_qnumbers, .ref m_qmoving])), (m_qworld, .inl (cA 1, 122, .inl m_cworld))]) [0, 1] rfl) (g_X12_isGorge l D cA h0 m_thrown m_qworld m_qimages m_qhasImage m_qtape m_taped m_qfive m_size m_at m_from m_token m_value m_faultKind m_faultPlace m_qfresh m_startOne m_startOther m_latest m_leftBeats m_signed m_metMany m_qsums m_qpairs m_qgoesWith m_qsaid m_saidMany m_firstWait m_qfirstOrder m_bundleFirst m_qtiredBy m_tiredMany m_qmany m_qwidth m_qnumbers m_qmoving m_cworld (by omega) (by omega) (by omega) (by omega) (by omega) (by omega) a_m_cworld_0) (tb_V tw_1664 tw_1666 tw_54 tw_114 tw_1667) hdX12_isGorge ⟨rfl, rfl, Nat.le_of_ble_eq_true rfl, Nat.le_of_ble_eq_true rfl⟩ ⟨Nat.le_of_ble_eq_true rfl, Nat.le_of_ble_eq_true rfl⟩ rfl rfl rfl hl.1 rfl (Nat.le_of_ble_eq_true rfl) dX12_pair_1 (fun r_1 hr_1 => ?_)
  rcases hr_1 with ⟨k_1_0_0, k_1_0_1, k_1_0_2, k_1_0_3, rfl⟩ | rfl
  · skip
    refine lv_if_ne (tgt := 10) hx hb dX12_pair_4 (by decide) (fun c_2 => ?_) (fun c_2 => absurd c_2 (by decide))
    refine lv_iconst (v := (-1)) hx hb dX12_pair_10 (by decide) ?_
    refine lv_istore_n (lv' := [(1, .int (-1)), (0, .ref h0)]) hx hb dX12_pair_11 rfl hl (by decide) rfl (fun ls hl => ?_)
    refine lv_iconst (v := 0) hx hb dX12_pair_12 (by decide) ?_
    refine lv_istore_n (lv' := [(2, .int 0), (1, .int (-1)), (0, .ref h0)]) hx hb dX12_pair_13 rfl hl (by decide) rfl (fun ls hl => ?_)
    refine lv_iconst (v := 0) hx hb dX12_pair_14 (by decide) ?_
    refine lv_istore_n (lv' := [(3, .int 0), (2, .int 0), (1, .int (-1)), (0, .ref h0)]) hx hb dX12_pair_15 rfl hl (by decide) rfl (fun ls hl => ?_)
    refine loopW (σ := Int32 × Int32 × Int32) (fun _ => []) (fun ⟨L3_1408, L2_1408, L1_1408⟩ H locs ls => (0 ≤ L3_1408.toInt ∧ L3_1408.toInt ≤ 8) ∧ (-1 ≤ L1_1408.toInt ∧ L1_1408.toInt ≤ 77) ∧ H = s.heap ∧ locs = [] ∧ lv_has ls 5 [(3, .int L3_1408), (2, .int L2_1408), (1, .int L1_1408), (0, .ref h0)]) (fun ⟨L3_1408, L2_1408, L1_1408⟩ => (2147483647 - L3_1408.toInt).toNat) ?_ ((0, 0, (-1)) : Int32 × Int32 × Int32) ⟨(by decide), (by decide), rfl, rfl, hl⟩
    intro x_1408 H locs ls hI_1408 ih_1408
    obtain ⟨L3_1408, L2_1408, L1_1408⟩ := x_1408
    obtain ⟨k0_1408, k1_1408, rfl, rfl, hl⟩ := hI_1408
    have hl : lv_has ls 5 [(3, .int L3_1408), (2, .int L2_1408), (1, .int L1_1408), (0, .ref h0)] := hl
    refine lv_iload_n hx hb dX12_pair_16 rfl (lv_at hl 0 rfl) ?_
    refine lv_aload_n hx hb dX12_pair_17 rfl (lv_at hl 3 rfl) ?_
    refine va_get (D := D) (ci := 12) (v := .ref m_qworld) (C := RX12) (T := TX12) (N := 35) hx hb hts inX12 hown hKN.1 hP 0 rfl rfl 1 (by decide) (hts _ tw_1420) (fun _ h9 => h9) rfl dX12_pair_18 ?_
    refine lv_iconst (v := 4) hx hb dX12_pair_21 (by decide) ?_
    refine va_iald hx hb hKN.1 hP 1 1 rfl rfl (by unfold vp_in; decide) dX12_pair_22 ?_
    refine W.eq (g2 := F0 m 23 ls [.int (m_cworld 4), .int L3_1408]) rfl ?_
    have k_1409 := a_m_cworld_0.1.1.2.2.2.1 (4) (by decide) (by decide)
    refine lv_icmp_ge (tgt := 102) hx hb dX12_pair_23 (by decide) (fun c_1410 => ?_) (fun c_1410 => ?_)
    · skip
      have k_1411 := kk_le rfl rfl c_1410
      refine lv_iload_n hx hb dX12_pair_102 rfl (lv_at hl 2 rfl) ?_
      exact W.iret (v := L1_1408) hx hb hr (fun t ht hW => ⟨L1_1408, rfl, (show -2 ≤ L1_1408.toInt ∧ L1_1408.toInt ≤ 77 from by omega), ht⟩) (fun _ h => by cases h) dX12_pair_103
    · skip
      have k_1412 := kk_nle rfl rfl c_1410
      refine lv_iconst (v := 0) hx hb dX12_pair_26 (by decide) ?_
      refine lv_istore (lv' := [(4, .int 0), (3, .int L3_1408), (2, .int L2_1408), (1, .int L1_1408), (0, .ref h0)]) hx hb dX12_pair_27 hl (by decide) rfl (fun ls hl => ?_)
      have b_1584 := i32_bd L2_1408
      refine loopW (σ := Int32 × Int32 × Int32) (fun _ => []) (fun ⟨L4_1583, L2_1583, L1_1583⟩ H locs ls => (0 ≤ L4_1583.toInt ∧ L4_1583.toInt ≤ 8) ∧ (-1 ≤ L1_1583.toInt ∧ L1_1583.toInt ≤ 77) ∧ H = s.heap ∧ locs = [] ∧ lv_has ls 5 [(4, .int L4_1583), (3, .int L3_1408), (2, .int L2_1583), (1, .int L1_1583), (0, .ref h0)]) (fun ⟨L4_1583, L2_1583, L1_1583⟩ => (2147483647 - L4_1583.toInt).toNat) ?_ ((0, L2_1408, L1_1408) : Int32 × Int32 × Int32) ⟨(by decide), (show -1 ≤ L1_1408.toInt ∧ L1_1408.toInt ≤ 77 from by omega), rfl, rfl, hl⟩
      intro x_1583 H locs ls hI_1583 ih_1583
      obtain ⟨L4_1583, L2_1583, L1_1583⟩ := x_1583
      obtain ⟨k0_1583, k1_1583, rfl, rfl, hl⟩ := hI_1583
      have hl : lv_has ls 5 [(4, .int L4_1583), (3, .int L3_1408), (2, .int L2_1583), (1, .int L1_1583), (0, .ref h0)] := hl
      refine lv_iload hx hb dX12_pair_29 (lv_at hl 0 rfl) ?_
      refine lv_aload_n hx hb dX12_pair_31 rfl (lv_at hl 4 rfl) ?_
      refine va_get (D := D) (ci := 12) (v := .ref m_qworld) (C := RX12) (T := TX12) (N := 35) hx hb hts inX12 hown hKN.1 hP 0 rfl rfl 1 (by decide) (hts _ tw_1420) (fun _ h9 => h9) rfl dX12_pair_32 ?_
      refine lv_iconst (v := 4) hx hb dX12_pair_35 (by decide) ?_
      refine va_iald hx hb hKN.1 hP 1 1 rfl rfl (by unfold vp_in; decide) dX12_pair_36 ?_
      refine W.eq (g2 := F0 m 37 ls [.int (m_cworld 4), .int L4_1583]) rfl ?_
      refine lv_icmp_ge (tgt := 96) hx hb dX12_pair_37 (by decide) (fun c_1585 => ?_) (fun c_1585 => ?_)
      · skip
        have k_1586 := kk_le rfl rfl c_1585
        obtain ⟨x_1587, ex_1587⟩ : ∃ y : Int32, L3_1408 + Int32.ofInt 1 = y := ⟨_, rfl⟩
        have k_1588 := ar_add (b := 1) rfl zi_1 ex_1587.symm (by omega) (by omega)
        refine lv_iinc (v := x_1587) (lv' := [(3, .int x_1587), (4, .int L4_1583), (2, .int L2_1583), (1, .int L1_1583), (0, .ref h0)]) hx hb dX12_pair_96 hl (k := 1) rfl ex_1587 (by decide) rfl (fun ls hl => ?_)
        refine lv_goto (tgt := 16) hx hb dX12_pair_99 (by decide) ?_
        exact ih_1408 (x_1587, L2_1583, L1_1583) _ _ _ ⟨(show 0 ≤ x_1587.toInt ∧ x_1587.toInt ≤ 8 from by omega), (show -1 ≤ L1_1583.toInt ∧ L1_1583.toInt ≤ 77 from by omega), rfl, rfl, lv_sub hl [0, 2, 3, 4] rfl⟩ (by show (2147483647 - x_1587.toInt).toNat < (2147483647 - L3_1408.toInt).toNat; omega)
      · skip
        have k_1589 := kk_nle rfl rfl c_1585
        refine lv_aload_n hx hb dX12_pair_40 rfl (lv_at hl 4 rfl) ?_
        refine lv_iload_n hx hb dX12_pair_41 rfl (lv_at hl 1 rfl) ?_
        refine lv_iconst (v := 0) hx hb dX12_pair_42 (by decide) ?_
        have z_1590 := zi_0
        refine cpVi (rest := []) ⟨hx, hb, hml, hown, hts⟩ hKN (hP.sub (ws' := [(h0, .inr (12, [.int m_thrown, .ref m_qworld, .ref m_qimages, .ref m_qhasImage, .ref m_qtape, .int m_taped, .ref m_qfive, .int m_size, .int m_at, .int m_from, .int m_token, .int m_value, .int m_faultKind, .int m_faultPlace, .ref m_qfresh, .int m_startOne, .int m_startOther, .int m_latest, .int m_leftBeats, .int m_signed, .int m_metMany, .ref m_qsums, .ref m_qpairs, .ref m_qgoesWith, .ref m_qsaid, .int m_saidMany, .int m_firstWait, .ref m_qfirstOrder, .int m_bundleFirst, .ref m_qtiredBy, .int m_tiredMany, .ref m_qmany, .ref m_qwidth, .ref m_qnumbers, .ref m_qmoving])), (m_qworld, .inl (cA 1, 122, .inl m_cworld))]) [0, 1] rfl) (g_X12_of l D cA h0 m_thrown m_qworld m_qimages m_qhasImage m_qtape m_taped m_qfive m_size m_at m_from m_token m_value m_faultKind m_faultPlace m_qfresh m_startOne m_startOther m_latest m_leftBeats m_signed m_metMany m_qsums m_qpairs m_qgoesWith m_qsaid m_saidMany m_firstWait m_qfirstOrder m_bundleFirst m_qtiredBy m_tiredMany m_qmany m_qwidth m_qnumbers m_qmoving m_cworld L3_1408 0 (by omega) (by omega) (by omega) (by omega) (by omega) (by omega) (by omega) (by decide) a_m_cworld_0) (tb_V tw_1640 tw_1642 tw_50 tw_114 tw_1643) hdX12_of ⟨rfl, rfl, Nat.le_of_ble_eq_true rfl, Nat.le_of_ble_eq_true rfl⟩ ⟨Nat.le_of_ble_eq_true rfl, Nat.le_of_ble_eq_true rfl⟩ rfl rfl rfl hl.1 rfl (Nat.le_of_ble_eq_true rfl) dX12_pair_43 (fun r_1591 hr_1591 => ?_)
        obtain ⟨k_1591_0_0, k_1591_0_1⟩ := hr_1591
        refine lv_if_ne (tgt := 90) hx hb dX12_pair_46 (by decide) (fun c_1592 => ?_) (fun c_1592 => ?_)
        · skip
          have k_1593 := kk_ne rfl zi_0 c_1592
          obtain ⟨x_1594, ex_1594⟩ : ∃ y : Int32, L4_1583 + Int32.ofInt 1 = y := ⟨_, rfl⟩
          have k_1595 := ar_add (b := 1) rfl zi_1 ex_1594.symm (by omega) (by omega)
          refine lv_iinc (v := x_1594) (lv' := [(4, .int x_1594), (3, .int L3_1408), (2, .int L2_1583), (1, .int L1_1583), (0, .ref h0)]) hx hb dX12_pair_90 hl (k := 0) rfl ex_1594 (by decide) rfl (fun ls hl => ?_)
          refine lv_goto (tgt := 29) hx hb dX12_pair_93 (by decide) ?_
          exact ih_1583 (x_1594, L2_1583, L1_1583) _ _ _ ⟨(show 0 ≤ x_1594.toInt ∧ x_1594.toInt ≤ 8 from by omega), (show -1 ≤ L1_1583.toInt ∧ L1_1583.toInt ≤ 77 from by omega), rfl, rfl, lv_sub hl [0, 1, 2, 3, 4] rfl⟩ (by show (2147483647 - x_1594.toInt).toNat < (2147483647 - L4_1583.toInt).toNat; omega)
        · skip
          have k_1596 := kk_eq rfl zi_0 c_1592
          refine lv_aload_n hx hb dX12_pair_49 rfl (lv_at hl 4 rfl) ?_
          refine lv_iload hx hb dX12_pair_50 (lv_at hl 0 rfl) ?_
          refine lv_iconst (v := 0) hx hb dX12_pair_52 (by decide) ?_
          refine cpVi (rest := []) ⟨hx, hb, hml, hown, hts⟩ hKN (hP.sub (ws' := [(h0, .inr (12, [.int m_thrown, .ref m_qworld, .ref m_qimages, .ref m_qhasImage, .ref m_qtape, .int m_taped, .ref m_qfive, .int m_size, .int m_at, .int m_from, .int m_token, .int m_value, .int m_faultKind, .int m_faultPlace, .ref m_qfresh, .int m_startOne, .int m_startOther, .int m_latest, .int m_leftBeats, .int m_signed, .int m_metMany, .ref m_qsums, .ref m_qpairs, .ref m_qgoesWith, .ref m_qsaid, .int m_saidMany, .int m_firstWait, .ref m_qfirstOrder, .int m_bundleFirst, .ref m_qtiredBy, .int m_tiredMany, .ref m_qmany, .ref m_qwidth, .ref m_qnumbers, .ref m_qmoving])), (m_qworld, .inl (cA 1, 122, .inl m_cworld))]) [0, 1] rfl) (g_X12_of l D cA h0 m_thrown m_qworld m_qimages m_qhasImage m_qtape m_taped m_qfive m_size m_at m_from m_token m_value m_faultKind m_faultPlace m_qfresh m_startOne m_startOther m_latest m_leftBeats m_signed m_metMany m_qsums m_qpairs m_qgoesWith m_qsaid m_saidMany m_firstWait m_qfirstOrder m_bundleFirst m_qtiredBy m_tiredMany m_qmany m_qwidth m_qnumbers m_qmoving m_cworld L4_1583 0 (by omega) (by omega) (by omega) (by omega) (by omega) (by omega) (by omega) (by decide) a_m_cworld_0) (tb_V tw_1640 tw_1642 tw_50 tw_114 tw_1643) hdX12_of ⟨rfl, rfl, Nat.le_of_ble_eq_true rfl, Nat.le_of_ble_eq_true rfl⟩ ⟨Nat.le_of_ble_eq_true rfl, Nat.le_of_ble_eq_true rfl⟩ rfl rfl rfl hl.1 rfl (Nat.le_of_ble_eq_true rfl) dX12_pair_53 (fun r_1597 hr_1597 => ?_)
          obtain ⟨k_1597_0_0, k_1597_0_1⟩ := hr_1597
          refine lv_iconst (v := 1) hx hb dX12_pair_56 (by decide) ?_
          refine lv_icmp_ne (tgt := 90) hx hb dX12_pair_57 (by decide) (fun c_1598 => ?_) (fun c_1598 => ?_)
          · skip
            have k_1599 := kk_ne rfl zi_1 c_1598
            obtain ⟨x_1600, ex_1600⟩ : ∃ y : Int32, L4_1583 + Int32.ofInt 1 = y := ⟨_, rfl⟩
            have k_1601 := ar_add (b := 1) rfl zi_1 ex_1600.symm (by omega) (by omega)
            refine lv_iinc (v := x_1600) (lv' := [(4, .int x_1600), (3, .int L3_1408), (2, .int L2_1583), (1, .int L1_1583), (0, .ref h0)]) hx hb dX12_pair_90 hl (k := 0) rfl ex_1600 (by decide) rfl (fun ls hl => ?_)
            refine lv_goto (tgt := 29) hx hb dX12_pair_93 (by decide) ?_
            exact ih_1583 (x_1600, L2_1583, L1_1583) _ _ _ ⟨(show 0 ≤ x_1600.toInt ∧ x_1600.toInt ≤ 8 from by omega), (show -1 ≤ L1_1583.toInt ∧ L1_1583.toInt ≤ 77 from by omega), rfl, rfl, lv_sub hl [0, 1, 2, 3, 4] rfl⟩ (by show (2147483647 - x_1600.toInt).toNat < (2147483647 - L4_1583.toInt).toNat; omega)
          · skip
            have k_1602 := kk_eq rfl zi_1 c_1598
            refine lv_aload_n hx hb dX12_pair_60 rfl (lv_at hl 4 rfl) ?_
            refine lv_iload_n hx hb dX12_pair_61 rfl (lv_at hl 1 rfl) ?_
            refine lv_iload hx hb dX12_pair_62 (lv_at hl 0 rfl) ?_
            refine cpVi (rest := []) ⟨hx, hb, hml, hown, hts⟩ hKN (hP.sub (ws' := [(h0, .inr (12, [.int m_thrown, .ref m_qworld, .ref m_qimages, .ref m_qhasImage, .ref m_qtape, .int m_taped, .ref m_qfive, .int m_size, .int m_at, .int m_from, .int m_token, .int m_value, .int m_faultKind, .int m_faultPlace, .ref m_qfresh, .int m_startOne, .int m_startOther, .int m_latest, .int m_leftBeats, .int m_signed, .int m_metMany, .ref m_qsums, .ref m_qpairs, .ref m_qgoesWith, .ref m_qsaid, .int m_saidMany, .int m_firstWait, .ref m_qfirstOrder, .int m_bundleFirst, .ref m_qtiredBy, .int m_tiredMany, .ref m_qmany, .ref m_qwidth, .ref m_qnumbers, .ref m_qmoving])), (m_qworld, .inl (cA 1, 122, .inl m_cworld))]) [0, 1] rfl) (g_X12_holdOf l D cA h0 m_thrown m_qworld m_qimages m_qhasImage m_qtape m_taped m_qfive m_size m_at m_from m_token m_value m_faultKind m_faultPlace m_qfresh m_startOne m_startOther m_latest m_leftBeats m_signed m_metMany m_qsums m_qpairs m_qgoesWith m_qsaid m_saidMany m_firstWait m_qfirstOrder m_bundleFirst m_qtiredBy m_tiredMany m_qmany m_qwidth m_qnumbers m_qmoving m_cworld L3_1408 L4_1583 (by omega) (by omega) (by omega) (by omega) (by omega) (by omega) (by omega) (by omega) a_m_cworld_0) (tb_V tw_1700 tw_1702 tw_63 tw_114 tw_1703) hdX12_holdOf ⟨rfl, rfl, Nat.le_of_ble_eq_true rfl, Nat.le_of_ble_eq_true rfl⟩ ⟨Nat.le_of_ble_eq_true rfl, Nat.le_of_ble_eq_true rfl⟩ rfl rfl rfl hl.1 rfl (Nat.le_of_ble_eq_true rfl) dX12_pair_64 (fun r_1603 hr_1603 => ?_)
            refine lv_iload_n hx hb dX12_pair_67 rfl (lv_at hl 2 rfl) ?_
            refine lv_icmp_gt (tgt := 74) hx hb dX12_pair_68 (by decide) (fun c_1604 => ?_) (fun c_1604 => ?_)
            · skip
              have b_1606 := i32_bd L2_1583
              have b_1607 := i32_bd r_1603
              have k_1605 := kk_lt rfl rfl c_1604
              refine lv_aload_n hx hb dX12_pair_74 rfl (lv_at hl 4 rfl) ?_
              refine lv_iload_n hx hb dX12_pair_75 rfl (lv_at hl 1 rfl) ?_
              refine lv_iload hx hb dX12_pair_76 (lv_at hl 0 rfl) ?_
              refine cpVi (rest := []) ⟨hx, hb, hml, hown, hts⟩ hKN (hP.sub (ws' := [(h0, .inr (12, [.int m_thrown, .ref m_qworld, .ref m_qimages, .ref m_qhasImage, .ref m_qtape, .int m_taped, .ref m_qfive, .int m_size, .int m_at, .int m_from, .int m_token, .int m_value, .int m_faultKind, .int m_faultPlace, .ref m_qfresh, .int m_startOne, .int m_startOther, .int m_latest, .int m_leftBeats, .int m_signed, .int m_metMany, .ref m_qsums, .ref m_qpairs, .ref m_qgoesWith, .ref m_qsaid, .int m_saidMany, .int m_firstWait, .ref m_qfirstOrder, .int m_bundleFirst, .ref m_qtiredBy, .int m_tiredMany, .ref m_qmany, .ref m_qwidth, .ref m_qnumbers, .ref m_qmoving])), (m_qworld, .inl (cA 1, 122, .inl m_cworld))]) [0, 1] rfl) (g_X12_holdOf l D cA h0 m_thrown m_qworld m_qimages m_qhasImage m_qtape m_taped m_qfive m_size m_at m_from m_token m_value m_faultKind m_faultPlace m_qfresh m_startOne m_startOther m_latest m_leftBeats m_signed m_metMany m_qsums m_qpairs m_qgoesWith m_qsaid m_saidMany m_firstWait m_qfirstOrder m_bundleFirst m_qtiredBy m_tiredMany m_qmany m_qwidth m_qnumbers m_qmoving m_cworld L3_1408 L4_1583 (by omega) (by omega) (by omega) (by omega) (by omega) (by omega) (by omega) (by omega) a_m_cworld_0) (tb_V tw_1700 tw_1702 tw_63 tw_114 tw_1703) hdX12_holdOf ⟨rfl, rfl, Nat.le_of_ble_eq_true rfl, Nat.le_of_ble_eq_true rfl⟩ ⟨Nat.le_of_ble_eq_true rfl, Nat.le_of_ble_eq_true rfl⟩ rfl rfl rfl hl.1 rfl (Nat.le_of_ble_eq_true rfl) dX12_pair_78 (fun r_1608 hr_1608 => ?_)
              refine lv_istore_n (lv' := [(2, .int r_1608), (4, .int L4_1583), (3, .int L3_1408), (1, .int L1_1583), (0, .ref h0)]) hx hb dX12_pair_81 rfl hl (by decide) rfl (fun ls hl => ?_)
              refine lv_bipush (v := 10) hx hb dX12_pair_82 (by decide) ?_
              refine lv_iload_n hx hb dX12_pair_84 rfl (lv_at hl 2 rfl) ?_
              refine lv_imul hx hb dX12_pair_85 ?_
              refine lv_topi (fun x_1609 ex_1609 => ?_)
              have k_1610 := ar_mul zi_10 rfl ex_1609 (by omega) (by omega)
              refine lv_iload hx hb dX12_pair_86 (lv_at hl 1 rfl) ?_
              refine lv_iadd hx hb dX12_pair_88 ?_
              refine lv_topi (fun x_1611 ex_1611 => ?_)
              have k_1612 := ar_add rfl rfl ex_1611 (by omega) (by omega)
              refine lv_istore_n (lv' := [(1, .int x_1611), (2, .int r_1608), (4, .int L4_1583), (3, .int L3_1408), (0, .ref h0)]) hx hb dX12_pair_89 rfl hl (by decide) rfl (fun ls hl => ?_)
              obtain ⟨x_1613, ex_1613⟩ : ∃ y : Int32, L4_1583 + Int32.ofInt 1 = y := ⟨_, rfl⟩
              have k_1614 := ar_add (b := 1) rfl zi_1 ex_1613.symm (by omega) (by omega)
              refine lv_iinc (v := x_1613) (lv' := [(4, .int x_1613), (1, .int x_1611), (2, .int r_1608), (3, .int L3_1408), (0, .ref h0)]) hx hb dX12_pair_90 hl (k := 2) rfl ex_1613 (by decide) rfl (fun ls hl => ?_)
              refine lv_goto (tgt := 29) hx hb dX12_pair_93 (by decide) ?_
              exact ih_1583 (x_1613, r_1608, x_1611) _ _ _ ⟨(show 0 ≤ x_1613.toInt ∧ x_1613.toInt ≤ 8 from by omega), (show -1 ≤ x_1611.toInt ∧ x_1611.toInt ≤ 77 from by omega), rfl, rfl, lv_sub hl [0, 3, 2, 1, 4] rfl⟩ (by show (2147483647 - x_1613.toInt).toNat < (2147483647 - L4_1583.toInt).toNat; omega)
            · skip
              have b_1616 := i32_bd L2_1583
              have b_1617 := i32_bd r_1603
              have k_1615 := kk_nlt rfl rfl c_1604
              refine lv_goto (tgt := 90) hx hb dX12_pair_71 (by decide) ?_
              obtain ⟨x_1618, ex_1618⟩ : ∃ y : Int32, L4_1583 + Int32.ofInt 1 = y := ⟨_, rfl⟩
              have k_1619 := ar_add (b := 1) rfl zi_1 ex_1618.symm (by omega) (by omega)
              refine lv_iinc (v := x_1618) (lv' := [(4, .int x_1618), (3, .int L3_1408), (2, .int L2_1583), (1, .int L1_1583), (0, .ref h0)]) hx hb dX12_pair_90 hl (k := 0) rfl ex_1618 (by decide) rfl (fun ls hl => ?_)
              refine lv_goto (tgt := 29) hx hb dX12_pair_93 (by decide) ?_
              exact ih_1583 (x_1618, L2_1583, L1_1583) _ _ _ ⟨(show 0 ≤ x_1618.toInt ∧ x_1618.toInt ≤ 8 from by omega), (show -1 ≤ L1_1583.toInt ∧ L1_1583.toInt ≤ 77 from by omega), rfl, rfl, lv_sub hl [0, 1, 2, 3, 4] rfl⟩ (by show (2147483647 - x_1618.toInt).toNat < (2147483647 - L4_1583.toInt).toNat; omega)
  · skip
    refine lv_if_ne (tgt := 10) hx hb dX12_pair_4 (by decide) (fun c_1620 => absurd (by decide) c_1620) (fun c_1620 => ?_)
    refine lv_bipush (v := (-2)) hx hb dX12_pair_7 (by decide) ?_
    exact W.iret (v := (-2)) hx hb hr (fun t ht hW => ⟨(-2), rfl, (show -2 ≤ ((-2) : Int32).toInt ∧ ((-2) : Int32).toInt ≤ 77 from by decide), ht⟩) (fun _ h => by cases h) dX12_pair_9
set_option maxHeartbeats 8000000 in
set_option maxRecDepth 100000 in
theorem g_X12_partner (l : Launch) (D : va_G) (cA : Nat → ClassId) (h0 : Nat) (m_thrown : Int32) (m_qworld : Nat) (m_qimages : Nat) (m_qhasImage : Nat) (m_qtape : Nat) (m_taped : Int32) (m_qfive : Nat) (m_size : Int32) (m_at : Int32) (m_from : Int32) (m_token : Int32) (m_value : Int32) (m_faultKind : Int32) (m_faultPlace : Int32) (m_qfresh : Nat) (m_startOne : Int32) (m_startOther : Int32) (m_latest : Int32) (m_leftBeats : Int32) (m_signed : Int32) (m_metMany : Int32) (m_qsums : Nat) (m_qpairs : Nat) (m_qgoesWith : Nat) (m_qsaid : Nat) (m_saidMany : Int32) (m_firstWait : Int32) (m_qfirstOrder : Nat) (m_bundleFirst : Int32) (m_qtiredBy : Nat) (m_tiredMany : Int32) (m_qmany : Nat) (m_qwidth : Nat) (m_qnumbers : Nat) (m_qmoving : Nat) (m_cworld : Nat → Int32) (p0 : Int32) (h_m_taped : 0 ≤ (m_taped : Int32).toInt ∧ (m_taped : Int32).toInt ≤ 800) (h_m_size : 0 ≤ (m_size : Int32).toInt ∧ (m_size : Int32).toInt ≤ 800) (h_m_at : 0 ≤ (m_at : Int32).toInt ∧ (m_at : Int32).toInt ≤ 800) (h_m_from : 0 ≤ (m_from : Int32).toInt ∧ (m_from : Int32).toInt ≤ 800) (h_m_saidMany : 0 ≤ (m_saidMany : Int32).toInt ∧ (m_saidMany : Int32).toInt ≤ 60) (h_m_tiredMany : 0 ≤ (m_tiredMany : Int32).toInt ∧ (m_tiredMany : Int32).toInt ≤ 240) (a_m_cworld_0 : WI m_cworld) : Met l yX12_partner (Cond.code yX12_partner cX12_partner 4 (some .int) :: TB) (rmd 4 0 0) (PP D cA [(h0, .inr (12, [.int m_thrown, .ref m_qworld, .ref m_qimages, .ref m_qhasImage, .ref m_qtape, .int m_taped, .ref m_qfive, .int m_size, .int m_at, .int m_from, .int m_token, .int m_value, .int m_faultKind, .int m_faultPlace, .ref m_qfresh, .int m_startOne, .int m_startOther, .int m_latest, .int m_leftBeats, .int m_signed, .int m_metMany, .ref m_qsums, .ref m_qpairs, .ref m_qgoesWith, .ref m_qsaid, .int m_saidMany, .int m_firstWait, .ref m_qfirstOrder, .int m_bundleFirst, .ref m_qtiredBy, .int m_tiredMany, .ref m_qmany, .ref m_qwidth, .ref m_qnumbers, .ref m_qmoving])), (m_qworld, .inl (cA 1, 122, .inl m_cworld))] [.ref h0, .int p0]) (vp_Si (fun r => -2 ≤ r.toInt ∧ r.toInt ≤ 7)) 0 0 (fun _ => False) := by
  refine Met.ofW (cc := cX12_partner) (maxL := 4) (ret := (some .int)) (by decide) rfl ?_
  intro p e s m args below meth c s₁ B hml hv
  obtain ⟨rfl, hP, hKN⟩ := hv
  have hx := B.exec
  have hb := B.bytes
  have hr := B.returns
  have hts : ∀ w ∈ TB, w.before _ s = true := fun w h => atoms_spec B.pre w (List.mem_cons_of_mem _ h)
  have hown : s.vm.findClass RX12 = some m.cls := findClass_of_methodNamed B.named
  have hlocks := B.notSynchronized
  have hl := lv_entry ([.ref h0, .int p0]) (n := 4) (Nat.le_of_ble_eq_true rfl)
  rw [lg_entry_eq]
  generalize (lg_sl ([.ref h0, .int p0]) ++ List.replicate (4 - (lg_sl ([.ref h0, .int p0])).length) Slot.unset).toArray = ls at hl ⊢
  have hl : lv_has ls 4 [(0, .ref h0), (1, .int p0)] := hl
  refine lv_aload_n hx hb dX12_partner_0 rfl (lv_at hl 0 rfl) ?_
  refine lv_iload_n hx hb dX12_partner_1 rfl (lv_at hl 1 rfl) ?_
  obtain ⟨x_1, ex_1⟩ : ∃ y, p0.toInt64 = y := ⟨_, rfl⟩
  refine lv_i2l (v := x_1) hx hb dX12_partner_2 ex_1 ?_
  have k_2 := tt_i2l ex_1
  refine cpVi (rest := []) ⟨hx, hb, hml, hown, hts⟩ hKN (hP.sub (ws' := [(h0, .inr (12, [.int m_thrown, .ref m_qworld, .ref m_qimages, .ref m_qhasImage, .ref m_qtape, .int m_taped, .ref m_qfive, .int m_size, .int m_at, .int m_from, .int m_token, .int m_value, .int m_faultKind, .int m_faultPlace, .ref m_qfresh, .int m_startOne, .int m_startOther, .int m_latest, .int m_leftBeats, .int m_signed, .int m_metMany, .ref m_qsums, .ref m_qpairs, .ref m_qgoesWith, .ref m_qsaid, .int m_saidMany, .int m_firstWait, .ref m_qfirstOrder, .int m_bundleFirst, .ref m_qtiredBy, .int m_tiredMany, .ref m_qmany, .ref m_qwidth, .ref m_qnumbers, .ref m_qmoving])), (m_qworld, .inl (cA 1, 122, .inl m_cworld))]) [0, 1] rfl) (g_X12_isMan l D cA h0 m_thrown m_qworld m_qimages m_qhasImage m_qtape m_taped m_qfive m_size m_at m_from m_token m_value m_faultKind m_faultPlace m_qfresh m_startOne m_startOther m_latest m_leftBeats m_signed m_metMany m_qsums m_qpairs m_qgoesWith m_qsaid m_saidMany m_firstWait m_qfirstOrder m_bundleFirst m_qtiredBy m_tiredMany m_qmany m_qwidth m_qnumbers m_qmoving m_cworld x_1 (by omega) (by omega) (by omega) (by omega) (by omega) (by omega) a_m_cworld_0) (tb_V tw_1636 tw_1638 tw_49 tw_114 tw_1639) hdX12_isMan ⟨rfl, rfl, Nat.le_of_ble_eq_true rfl, Nat.le_of_ble_eq_true rfl⟩ ⟨Nat.le_of_ble_eq_true rfl, Nat.le_of_ble_eq_true rfl⟩ rfl rfl rfl hl.1 rfl (Nat.le_of_ble_eq_true rfl) dX12_partner_3 (fun r_3 hr_3 => ?_)
  rcases hr_3 with ⟨k_3_0_0, k_3_0_1, k_3_0_2, k_3_0_3, k_3_0_4, k_3_0_5, rfl⟩ | rfl
  · skip
    refine lv_if_ne (tgt := 12) hx hb dX12_partner_6 (by decide) (fun c_4 => ?_) (fun c_4 => absurd c_4 (by decide))
    refine lv_iconst (v := (-1)) hx hb dX12_partner_12 (by decide) ?_
    refine lv_istore_n (lv' := [(2, .int (-1)), (0, .ref h0), (1, .int p0)]) hx hb dX12_partner_13 rfl hl (by decide) rfl (fun ls hl => ?_)
    refine lv_iconst (v := 0) hx hb dX12_partner_14 (by decide) ?_
    refine lv_istore_n (lv' := [(3, .int 0), (2, .int (-1)), (0, .ref h0), (1, .int p0)]) hx hb dX12_partner_15 rfl hl (by decide) rfl (fun ls hl => ?_)
    refine loopW (σ := Int32 × Int32) (fun _ => []) (fun ⟨L3_166, L2_166⟩ H locs ls => (0 ≤ L3_166.toInt ∧ L3_166.toInt ≤ 8) ∧ (-1 ≤ L2_166.toInt ∧ L2_166.toInt ≤ 7) ∧ H = s.heap ∧ locs = [] ∧ lv_has ls 4 [(3, .int L3_166), (2, .int L2_166), (0, .ref h0), (1, .int p0)]) (fun ⟨L3_166, L2_166⟩ => (2147483647 - L3_166.toInt).toNat) ?_ ((0, (-1)) : Int32 × Int32) ⟨(by decide), (by decide), rfl, rfl, hl⟩
    intro x_166 H locs ls hI_166 ih_166
    obtain ⟨L3_166, L2_166⟩ := x_166
    obtain ⟨k0_166, k1_166, rfl, rfl, hl⟩ := hI_166
    have hl : lv_has ls 4 [(3, .int L3_166), (2, .int L2_166), (0, .ref h0), (1, .int p0)] := hl
    refine lv_iload_n hx hb dX12_partner_16 rfl (lv_at hl 0 rfl) ?_
    refine lv_aload_n hx hb dX12_partner_17 rfl (lv_at hl 2 rfl) ?_
    refine va_get (D := D) (ci := 12) (v := .ref m_qworld) (C := RX12) (T := TX12) (N := 35) hx hb hts inX12 hown hKN.1 hP 0 rfl rfl 1 (by decide) (hts _ tw_1420) (fun _ h9 => h9) rfl dX12_partner_18 ?_
    refine lv_iconst (v := 4) hx hb dX12_partner_21 (by decide) ?_
    refine va_iald hx hb hKN.1 hP 1 1 rfl rfl (by unfold vp_in; decide) dX12_partner_22 ?_
    refine W.eq (g2 := F0 m 23 ls [.int (m_cworld 4), .int L3_166]) rfl ?_
    have k_167 := a_m_cworld_0.1.1.2.2.2.1 (4) (by decide) (by decide)
    refine lv_icmp_ge (tgt := 63) hx hb dX12_partner_23 (by decide) (fun c_168 => ?_) (fun c_168 => ?_)
    · skip
      have k_169 := kk_le rfl rfl c_168
      refine lv_iload_n hx hb dX12_partner_63 rfl (lv_at hl 1 rfl) ?_
      exact W.iret (v := L2_166) hx hb hr (fun t ht hW => ⟨L2_166, rfl, (show -2 ≤ L2_166.toInt ∧ L2_166.toInt ≤ 7 from by omega), ht⟩) (fun _ h => by cases h) dX12_partner_64
    · skip
      have k_170 := kk_nle rfl rfl c_168
      refine lv_aload_n hx hb dX12_partner_26 rfl (lv_at hl 2 rfl) ?_
      refine lv_iload_n hx hb dX12_partner_27 rfl (lv_at hl 3 rfl) ?_
      refine lv_iload_n hx hb dX12_partner_28 rfl (lv_at hl 0 rfl) ?_
      refine cpVi (rest := []) ⟨hx, hb, hml, hown, hts⟩ hKN (hP.sub (ws' := [(h0, .inr (12, [.int m_thrown, .ref m_qworld, .ref m_qimages, .ref m_qhasImage, .ref m_qtape, .int m_taped, .ref m_qfive, .int m_size, .int m_at, .int m_from, .int m_token, .int m_value, .int m_faultKind, .int m_faultPlace, .ref m_qfresh, .int m_startOne, .int m_startOther, .int m_latest, .int m_leftBeats, .int m_signed, .int m_metMany, .ref m_qsums, .ref m_qpairs, .ref m_qgoesWith, .ref m_qsaid, .int m_saidMany, .int m_firstWait, .ref m_qfirstOrder, .int m_bundleFirst, .ref m_qtiredBy, .int m_tiredMany, .ref m_qmany, .ref m_qwidth, .ref m_qnumbers, .ref m_qmoving])), (m_qworld, .inl (cA 1, 122, .inl m_cworld))]) [0, 1] rfl) (g_X12_isPair l D cA h0 m_thrown m_qworld m_qimages m_qhasImage m_qtape m_taped m_qfive m_size m_at m_from m_token m_value m_faultKind m_faultPlace m_qfresh m_startOne m_startOther m_latest m_leftBeats m_signed m_metMany m_qsums m_qpairs m_qgoesWith m_qsaid m_saidMany m_firstWait m_qfirstOrder m_bundleFirst m_qtiredBy m_tiredMany m_qmany m_qwidth m_qnumbers m_qmoving m_cworld p0 L3_166 (by omega) (by omega) (by omega) (by omega) (by omega) (by omega) (by omega) (by omega) a_m_cworld_0) (tb_V tw_1775 tw_1777 tw_69 tw_114 tw_1778) hdX12_isPair ⟨rfl, rfl, Nat.le_of_ble_eq_true rfl, Nat.le_of_ble_eq_true rfl⟩ ⟨Nat.le_of_ble_eq_true rfl, Nat.le_of_ble_eq_true rfl⟩ rfl rfl rfl hl.1 rfl (Nat.le_of_ble_eq_true rfl) dX12_partner_29 (fun r_171 hr_171 => ?_)
      refine lv_if_eq (tgt := 57) hx hb dX12_partner_32 (by decide) (fun c_172 => ?_) (fun c_172 => ?_)
      · skip
        have k_173 := kk_eq rfl zi_0 c_172
        obtain ⟨x_174, ex_174⟩ : ∃ y : Int32, L3_166 + Int32.ofInt 1 = y := ⟨_, rfl⟩
        have k_175 := ar_add (b := 1) rfl zi_1 ex_174.symm (by omega) (by omega)
        refine lv_iinc (v := x_174) (lv' := [(3, .int x_174), (2, .int L2_166), (0, .ref h0), (1, .int p0)]) hx hb dX12_partner_57 hl (k := 0) rfl ex_174 (by decide) rfl (fun ls hl => ?_)
        refine lv_goto (tgt := 16) hx hb dX12_partner_60 (by decide) ?_
        exact ih_166 (x_174, L2_166) _ _ _ ⟨(show 0 ≤ x_174.toInt ∧ x_174.toInt ≤ 8 from by omega), (show -1 ≤ L2_166.toInt ∧ L2_166.toInt ≤ 7 from by omega), rfl, rfl, lv_sub hl [0, 1, 2, 3] rfl⟩ (by show (2147483647 - x_174.toInt).toNat < (2147483647 - L3_166.toInt).toNat; omega)
      · skip
        have k_176 := kk_ne rfl zi_0 c_172
        refine lv_iload_n hx hb dX12_partner_35 rfl (lv_at hl 1 rfl) ?_
        refine lv_iconst (v := (-1)) hx hb dX12_partner_36 (by decide) ?_
        refine lv_icmp_eq (tgt := 55) hx hb dX12_partner_37 (by decide) (fun c_177 => ?_) (fun c_177 => ?_)
        · skip
          have k_178 := kk_eq rfl zi_m1 c_177
          refine lv_iload_n hx hb dX12_partner_55 rfl (lv_at hl 0 rfl) ?_
          refine lv_istore_n (lv' := [(2, .int L3_166), (3, .int L3_166), (0, .ref h0), (1, .int p0)]) hx hb dX12_partner_56 rfl hl (by decide) rfl (fun ls hl => ?_)
          obtain ⟨x_179, ex_179⟩ : ∃ y : Int32, L3_166 + Int32.ofInt 1 = y := ⟨_, rfl⟩
          have k_180 := ar_add (b := 1) rfl zi_1 ex_179.symm (by omega) (by omega)
          refine lv_iinc (v := x_179) (lv' := [(3, .int x_179), (2, .int L3_166), (0, .ref h0), (1, .int p0)]) hx hb dX12_partner_57 hl (k := 1) rfl ex_179 (by decide) rfl (fun ls hl => ?_)
          refine lv_goto (tgt := 16) hx hb dX12_partner_60 (by decide) ?_
          exact ih_166 (x_179, L3_166) _ _ _ ⟨(show 0 ≤ x_179.toInt ∧ x_179.toInt ≤ 8 from by omega), (show -1 ≤ L3_166.toInt ∧ L3_166.toInt ≤ 7 from by omega), rfl, rfl, lv_sub hl [0, 1, 2, 3] rfl⟩ (by show (2147483647 - x_179.toInt).toNat < (2147483647 - L3_166.toInt).toNat; omega)
        · skip
          have k_181 := kk_ne rfl zi_m1 c_177
          refine lv_aload_n hx hb dX12_partner_40 rfl (lv_at hl 2 rfl) ?_
          refine lv_iload_n hx hb dX12_partner_41 rfl (lv_at hl 3 rfl) ?_
          refine lv_iload_n hx hb dX12_partner_42 rfl (lv_at hl 0 rfl) ?_
          refine cpVi (rest := []) ⟨hx, hb, hml, hown, hts⟩ hKN (hP.sub (ws' := [(h0, .inr (12, [.int m_thrown, .ref m_qworld, .ref m_qimages, .ref m_qhasImage, .ref m_qtape, .int m_taped, .ref m_qfive, .int m_size, .int m_at, .int m_from, .int m_token, .int m_value, .int m_faultKind, .int m_faultPlace, .ref m_qfresh, .int m_startOne, .int m_startOther, .int m_latest, .int m_leftBeats, .int m_signed, .int m_metMany, .ref m_qsums, .ref m_qpairs, .ref m_qgoesWith, .ref m_qsaid, .int m_saidMany, .int m_firstWait, .ref m_qfirstOrder, .int m_bundleFirst, .ref m_qtiredBy, .int m_tiredMany, .ref m_qmany, .ref m_qwidth, .ref m_qnumbers, .ref m_qmoving])), (m_qworld, .inl (cA 1, 122, .inl m_cworld))]) [0, 1] rfl) (g_X12_holdOf l D cA h0 m_thrown m_qworld m_qimages m_qhasImage m_qtape m_taped m_qfive m_size m_at m_from m_token m_value m_faultKind m_faultPlace m_qfresh m_startOne m_startOther m_latest m_leftBeats m_signed m_metMany m_qsums m_qpairs m_qgoesWith m_qsaid m_saidMany m_firstWait m_qfirstOrder m_bundleFirst m_qtiredBy m_tiredMany m_qmany m_qwidth m_qnumbers m_qmoving m_cworld p0 L3_166 (by omega) (by omega) (by omega) (by omega) (by omega) (by omega) (by omega) (by omega) a_m_cworld_0) (tb_V tw_1700 tw_1702 tw_63 tw_114 tw_1703) hdX12_holdOf ⟨rfl, rfl, Nat.le_of_ble_eq_true rfl, Nat.le_of_ble_eq_true rfl⟩ ⟨Nat.le_of_ble_eq_true rfl, Nat.le_of_ble_eq_true rfl⟩ rfl rfl rfl hl.1 rfl (Nat.le_of_ble_eq_true rfl) dX12_partner_43 (fun r_182 hr_182 => ?_)
          refine lv_aload_n hx hb dX12_partner_46 rfl (lv_at hl 2 rfl) ?_
          refine lv_iload_n hx hb dX12_partner_47 rfl (lv_at hl 3 rfl) ?_
          refine lv_iload_n hx hb dX12_partner_48 rfl (lv_at hl 1 rfl) ?_
          refine cpVi (rest := [.int r_182]) ⟨hx, hb, hml, hown, hts⟩ hKN (hP.sub (ws' := [(h0, .inr (12, [.int m_thrown, .ref m_qworld, .ref m_qimages, .ref m_qhasImage, .ref m_qtape, .int m_taped, .ref m_qfive, .int m_size, .int m_at, .int m_from, .int m_token, .int m_value, .int m_faultKind, .int m_faultPlace, .ref m_qfresh, .int m_startOne, .int m_startOther, .int m_latest, .int m_leftBeats, .int m_signed, .int m_metMany, .ref m_qsums, .ref m_qpairs, .ref m_qgoesWith, .ref m_qsaid, .int m_saidMany, .int m_firstWait, .ref m_qfirstOrder, .int m_bundleFirst, .ref m_qtiredBy, .int m_tiredMany, .ref m_qmany, .ref m_qwidth, .ref m_qnumbers, .ref m_qmoving])), (m_qworld, .inl (cA 1, 122, .inl m_cworld))]) [0, 1] rfl) (g_X12_holdOf l D cA h0 m_thrown m_qworld m_qimages m_qhasImage m_qtape m_taped m_qfive m_size m_at m_from m_token m_value m_faultKind m_faultPlace m_qfresh m_startOne m_startOther m_latest m_leftBeats m_signed m_metMany m_qsums m_qpairs m_qgoesWith m_qsaid m_saidMany m_firstWait m_qfirstOrder m_bundleFirst m_qtiredBy m_tiredMany m_qmany m_qwidth m_qnumbers m_qmoving m_cworld p0 L2_166 (by omega) (by omega) (by omega) (by omega) (by omega) (by omega) (by omega) (by omega) a_m_cworld_0) (tb_V tw_1700 tw_1702 tw_63 tw_114 tw_1703) hdX12_holdOf ⟨rfl, rfl, Nat.le_of_ble_eq_true rfl, Nat.le_of_ble_eq_true rfl⟩ ⟨Nat.le_of_ble_eq_true rfl, Nat.le_of_ble_eq_true rfl⟩ rfl rfl rfl hl.1 rfl (Nat.le_of_ble_eq_true rfl) dX12_partner_49 (fun r_183 hr_183 => ?_)
          refine lv_icmp_le (tgt := 57) hx hb dX12_partner_52 (by decide) (fun c_184 => ?_) (fun c_184 => ?_)
          · skip
            have b_186 := i32_bd r_182
            have b_187 := i32_bd r_183
            have k_185 := kk_le rfl rfl c_184
            obtain ⟨x_188, ex_188⟩ : ∃ y : Int32, L3_166 + Int32.ofInt 1 = y := ⟨_, rfl⟩
            have k_189 := ar_add (b := 1) rfl zi_1 ex_188.symm (by omega) (by omega)
            refine lv_iinc (v := x_188) (lv' := [(3, .int x_188), (2, .int L2_166), (0, .ref h0), (1, .int p0)]) hx hb dX12_partner_57 hl (k := 0) rfl ex_188 (by decide) rfl (fun ls hl => ?_)
            refine lv_goto (tgt := 16) hx hb dX12_partner_60 (by decide) ?_
            exact ih_166 (x_188, L2_166) _ _ _ ⟨(show 0 ≤ x_188.toInt ∧ x_188.toInt ≤ 8 from by omega), (show -1 ≤ L2_166.toInt ∧ L2_166.toInt ≤ 7 from by omega), rfl, rfl, lv_sub hl [0, 1, 2, 3] rfl⟩ (by show (2147483647 - x_188.toInt).toNat < (2147483647 - L3_166.toInt).toNat; omega)
          · skip
            have b_191 := i32_bd r_182
            have b_192 := i32_bd r_183
            have k_190 := kk_nle rfl rfl c_184
            refine lv_iload_n hx hb dX12_partner_55 rfl (lv_at hl 0 rfl) ?_
            refine lv_istore_n (lv' := [(2, .int L3_166), (3, .int L3_166), (0, .ref h0), (1, .int p0)]) hx hb dX12_partner_56 rfl hl (by decide) rfl (fun ls hl => ?_)
            obtain ⟨x_193, ex_193⟩ : ∃ y : Int32, L3_166 + Int32.ofInt 1 = y := ⟨_, rfl⟩
            have k_194 := ar_add (b := 1) rfl zi_1 ex_193.symm (by omega) (by omega)
            refine lv_iinc (v := x_193) (lv' := [(3, .int x_193), (2, .int L3_166), (0, .ref h0), (1, .int p0)]) hx hb dX12_partner_57 hl (k := 1) rfl ex_193 (by decide) rfl (fun ls hl => ?_)
            refine lv_goto (tgt := 16) hx hb dX12_partner_60 (by decide) ?_
            exact ih_166 (x_193, L3_166) _ _ _ ⟨(show 0 ≤ x_193.toInt ∧ x_193.toInt ≤ 8 from by omega), (show -1 ≤ L3_166.toInt ∧ L3_166.toInt ≤ 7 from by omega), rfl, rfl, lv_sub hl [0, 1, 2, 3] rfl⟩ (by show (2147483647 - x_193.toInt).toNat < (2147483647 - L3_166.toInt).toNat; omega)
  · skip
    refine lv_if_ne (tgt := 12) hx hb dX12_partner_6 (by decide) (fun c_195 => absurd (by decide) c_195) (fun c_195 => ?_)
    refine lv_bipush (v := (-2)) hx hb dX12_partner_9 (by decide) ?_
    exact W.iret (v := (-2)) hx hb hr (fun t ht hW => ⟨(-2), rfl, (show -2 ≤ ((-2) : Int32).toInt ∧ ((-2) : Int32).toInt ≤ 7 from by decide), ht⟩) (fun _ h => by cases h) dX12_partner_11
set_option maxHeartbeats 8000000 in
set_option maxRecDepth 100000 in
theorem g_X12_weak (l : Launch) (D : va_G) (cA : Nat → ClassId) (h0 : Nat) (m_thrown : Int32) (m_qworld : Nat) (m_qimages : Nat) (m_qhasImage : Nat) (m_qtape : Nat) (m_taped : Int32) (m_qfive : Nat) (m_size : Int32) (m_at : Int32) (m_from : Int32) (m_token : Int32) (m_value : Int32) (m_faultKind : Int32) (m_faultPlace : Int32) (m_qfresh : Nat) (m_startOne : Int32) (m_startOther : Int32) (m_latest : Int32) (m_leftBeats : Int32) (m_signed : Int32) (m_metMany : Int32) (m_qsums : Nat) (m_qpairs : Nat) (m_qgoesWith : Nat) (m_qsaid : Nat) (m_saidMany : Int32) (m_firstWait : Int32) (m_qfirstOrder : Nat) (m_bundleFirst : Int32) (m_qtiredBy : Nat) (m_tiredMany : Int32) (m_qmany : Nat) (m_qwidth : Nat) (m_qnumbers : Nat) (m_qmoving : Nat) (m_cworld : Nat → Int32) (p0 : Int32) (h_m_taped : 0 ≤ (m_taped : Int32).toInt ∧ (m_taped : Int32).toInt ≤ 800) (h_m_size : 0 ≤ (m_size : Int32).toInt ∧ (m_size : Int32).toInt ≤ 800) (h_m_at : 0 ≤ (m_at : Int32).toInt ∧ (m_at : Int32).toInt ≤ 800) (h_m_from : 0 ≤ (m_from : Int32).toInt ∧ (m_from : Int32).toInt ≤ 800) (h_m_saidMany : 0 ≤ (m_saidMany : Int32).toInt ∧ (m_saidMany : Int32).toInt ≤ 60) (h_m_tiredMany : 0 ≤ (m_tiredMany : Int32).toInt ∧ (m_tiredMany : Int32).toInt ≤ 240) (a_m_cworld_0 : WI m_cworld) : Met l yX12_weak (Cond.code yX12_weak cX12_weak 4 (some .int) :: TB) (rmd 2 0 0) (PP D cA [(h0, .inr (12, [.int m_thrown, .ref m_qworld, .ref m_qimages, .ref m_qhasImage, .ref m_qtape, .int m_taped, .ref m_qfive, .int m_size, .int m_at, .int m_from, .int m_token, .int m_value, .int m_faultKind, .int m_faultPlace, .ref m_qfresh, .int m_startOne, .int m_startOther, .int m_latest, .int m_leftBeats, .int m_signed, .int m_metMany, .ref m_qsums, .ref m_qpairs, .ref m_qgoesWith, .ref m_qsaid, .int m_saidMany, .int m_firstWait, .ref m_qfirstOrder, .int m_bundleFirst, .ref m_qtiredBy, .int m_tiredMany, .ref m_qmany, .ref m_qwidth, .ref m_qnumbers, .ref m_qmoving])), (m_qworld, .inl (cA 1, 122, .inl m_cworld))] [.ref h0, .int p0]) (vp_Si (fun r => -2 ≤ r.toInt ∧ r.toInt ≤ 7)) 0 0 (fun _ => False) := by
  refine Met.ofW (cc := cX12_weak) (maxL := 4) (ret := (some .int)) (by decide) rfl ?_
  intro p e s m args below meth c s₁ B hml hv
  obtain ⟨rfl, hP, hKN⟩ := hv
  have hx := B.exec
  have hb := B.bytes
  have hr := B.returns
  have hts : ∀ w ∈ TB, w.before _ s = true := fun w h => atoms_spec B.pre w (List.mem_cons_of_mem _ h)
  have hown : s.vm.findClass RX12 = some m.cls := findClass_of_methodNamed B.named
  have hlocks := B.notSynchronized
  have hl := lv_entry ([.ref h0, .int p0]) (n := 4) (Nat.le_of_ble_eq_true rfl)
  rw [lg_entry_eq]
  generalize (lg_sl ([.ref h0, .int p0]) ++ List.replicate (4 - (lg_sl ([.ref h0, .int p0])).length) Slot.unset).toArray = ls at hl ⊢
  have hl : lv_has ls 4 [(0, .ref h0), (1, .int p0)] := hl
  refine lv_aload_n hx hb dX12_weak_0 rfl (lv_at hl 0 rfl) ?_
  refine lv_iload_n hx hb dX12_weak_1 rfl (lv_at hl 1 rfl) ?_
  refine cpVi (rest := []) ⟨hx, hb, hml, hown, hts⟩ hKN (hP.sub (ws' := [(h0, .inr (12, [.int m_thrown, .ref m_qworld, .ref m_qimages, .ref m_qhasImage, .ref m_qtape, .int m_taped, .ref m_qfive, .int m_size, .int m_at, .int m_from, .int m_token, .int m_value, .int m_faultKind, .int m_faultPlace, .ref m_qfresh, .int m_startOne, .int m_startOther, .int m_latest, .int m_leftBeats, .int m_signed, .int m_metMany, .ref m_qsums, .ref m_qpairs, .ref m_qgoesWith, .ref m_qsaid, .int m_saidMany, .int m_firstWait, .ref m_qfirstOrder, .int m_bundleFirst, .ref m_qtiredBy, .int m_tiredMany, .ref m_qmany, .ref m_qwidth, .ref m_qnumbers, .ref m_qmoving])), (m_qworld, .inl (cA 1, 122, .inl m_cworld))]) [0, 1] rfl) (g_X12_isSide l D cA h0 m_thrown m_qworld m_qimages m_qhasImage m_qtape m_taped m_qfive m_size m_at m_from m_token m_value m_faultKind m_faultPlace m_qfresh m_startOne m_startOther m_latest m_leftBeats m_signed m_metMany m_qsums m_qpairs m_qgoesWith m_qsaid m_saidMany m_firstWait m_qfirstOrder m_bundleFirst m_qtiredBy m_tiredMany m_qmany m_qwidth m_qnumbers m_qmoving m_cworld p0 (by omega) (by omega) (by omega) (by omega) (by omega) (by omega) a_m_cworld_0) (tb_V tw_1660 tw_1662 tw_53 tw_114 tw_1663) hdX12_isSide ⟨rfl, rfl, Nat.le_of_ble_eq_true rfl, Nat.le_of_ble_eq_true rfl⟩ ⟨Nat.le_of_ble_eq_true rfl, Nat.le_of_ble_eq_true rfl⟩ rfl rfl rfl hl.1 rfl (Nat.le_of_ble_eq_true rfl) dX12_weak_2 (fun r_1 hr_1 => ?_)
  rcases hr_1 with ⟨k_1_0_0, k_1_0_1, k_1_0_2, k_1_0_3, k_1_0_4, k_1_0_5, rfl⟩ | rfl
  · skip
    refine lv_if_ne (tgt := 11) hx hb dX12_weak_5 (by decide) (fun c_2 => ?_) (fun c_2 => absurd c_2 (by decide))
    refine lv_iconst (v := (-1)) hx hb dX12_weak_11 (by decide) ?_
    refine lv_istore_n (lv' := [(2, .int (-1)), (0, .ref h0), (1, .int p0)]) hx hb dX12_weak_12 rfl hl (by decide) rfl (fun ls hl => ?_)
    refine lv_iconst (v := 0) hx hb dX12_weak_13 (by decide) ?_
    refine lv_istore_n (lv' := [(3, .int 0), (2, .int (-1)), (0, .ref h0), (1, .int p0)]) hx hb dX12_weak_14 rfl hl (by decide) rfl (fun ls hl => ?_)
    refine loopW (σ := Int32 × Int32) (fun _ => []) (fun ⟨L3_155, L2_155⟩ H locs ls => (0 ≤ L3_155.toInt ∧ L3_155.toInt ≤ 8) ∧ (-1 ≤ L2_155.toInt ∧ L2_155.toInt ≤ 7) ∧ H = s.heap ∧ locs = [] ∧ lv_has ls 4 [(3, .int L3_155), (2, .int L2_155), (0, .ref h0), (1, .int p0)]) (fun ⟨L3_155, L2_155⟩ => (2147483647 - L3_155.toInt).toNat) ?_ ((0, (-1)) : Int32 × Int32) ⟨(by decide), (by decide), rfl, rfl, hl⟩
    intro x_155 H locs ls hI_155 ih_155
    obtain ⟨L3_155, L2_155⟩ := x_155
    obtain ⟨k0_155, k1_155, rfl, rfl, hl⟩ := hI_155
    have hl : lv_has ls 4 [(3, .int L3_155), (2, .int L2_155), (0, .ref h0), (1, .int p0)] := hl
    refine lv_iload_n hx hb dX12_weak_15 rfl (lv_at hl 0 rfl) ?_
    refine lv_aload_n hx hb dX12_weak_16 rfl (lv_at hl 2 rfl) ?_
    refine va_get (D := D) (ci := 12) (v := .ref m_qworld) (C := RX12) (T := TX12) (N := 35) hx hb hts inX12 hown hKN.1 hP 0 rfl rfl 1 (by decide) (hts _ tw_1420) (fun _ h9 => h9) rfl dX12_weak_17 ?_
    refine lv_iconst (v := 4) hx hb dX12_weak_20 (by decide) ?_
    refine va_iald hx hb hKN.1 hP 1 1 rfl rfl (by unfold vp_in; decide) dX12_weak_21 ?_
    refine W.eq (g2 := F0 m 22 ls [.int (m_cworld 4), .int L3_155]) rfl ?_
    have k_156 := a_m_cworld_0.1.1.2.2.2.1 (4) (by decide) (by decide)
    refine lv_icmp_ge (tgt := 63) hx hb dX12_weak_22 (by decide) (fun c_157 => ?_) (fun c_157 => ?_)
    · skip
      have k_158 := kk_le rfl rfl c_157
      refine lv_iload_n hx hb dX12_weak_63 rfl (lv_at hl 1 rfl) ?_
      exact W.iret (v := L2_155) hx hb hr (fun t ht hW => ⟨L2_155, rfl, (show -2 ≤ L2_155.toInt ∧ L2_155.toInt ≤ 7 from by omega), ht⟩) (fun _ h => by cases h) dX12_weak_64
    · skip
      have k_159 := kk_nle rfl rfl c_157
      refine lv_aload_n hx hb dX12_weak_25 rfl (lv_at hl 2 rfl) ?_
      refine lv_iload_n hx hb dX12_weak_26 rfl (lv_at hl 0 rfl) ?_
      refine lv_iconst (v := 0) hx hb dX12_weak_27 (by decide) ?_
      have z_160 := zi_0
      refine cpVi (rest := []) ⟨hx, hb, hml, hown, hts⟩ hKN (hP.sub (ws' := [(h0, .inr (12, [.int m_thrown, .ref m_qworld, .ref m_qimages, .ref m_qhasImage, .ref m_qtape, .int m_taped, .ref m_qfive, .int m_size, .int m_at, .int m_from, .int m_token, .int m_value, .int m_faultKind, .int m_faultPlace, .ref m_qfresh, .int m_startOne, .int m_startOther, .int m_latest, .int m_leftBeats, .int m_signed, .int m_metMany, .ref m_qsums, .ref m_qpairs, .ref m_qgoesWith, .ref m_qsaid, .int m_saidMany, .int m_firstWait, .ref m_qfirstOrder, .int m_bundleFirst, .ref m_qtiredBy, .int m_tiredMany, .ref m_qmany, .ref m_qwidth, .ref m_qnumbers, .ref m_qmoving])), (m_qworld, .inl (cA 1, 122, .inl m_cworld))]) [0, 1] rfl) (g_X12_of l D cA h0 m_thrown m_qworld m_qimages m_qhasImage m_qtape m_taped m_qfive m_size m_at m_from m_token m_value m_faultKind m_faultPlace m_qfresh m_startOne m_startOther m_latest m_leftBeats m_signed m_metMany m_qsums m_qpairs m_qgoesWith m_qsaid m_saidMany m_firstWait m_qfirstOrder m_bundleFirst m_qtiredBy m_tiredMany m_qmany m_qwidth m_qnumbers m_qmoving m_cworld L3_155 0 (by omega) (by omega) (by omega) (by omega) (by omega) (by omega) (by omega) (by decide) a_m_cworld_0) (tb_V tw_1640 tw_1642 tw_50 tw_114 tw_1643) hdX12_of ⟨rfl, rfl, Nat.le_of_ble_eq_true rfl, Nat.le_of_ble_eq_true rfl⟩ ⟨Nat.le_of_ble_eq_true rfl, Nat.le_of_ble_eq_true rfl⟩ rfl rfl rfl hl.1 rfl (Nat.le_of_ble_eq_true rfl) dX12_weak_28 (fun r_161 hr_161 => ?_)
      obtain ⟨k_161_0_0, k_161_0_1⟩ := hr_161
      refine lv_iload_n hx hb dX12_weak_31 rfl (lv_at hl 3 rfl) ?_
      refine lv_icmp_ne (tgt := 57) hx hb dX12_weak_32 (by decide) (fun c_162 => ?_) (fun c_162 => ?_)
      · skip
        have k_163 := kk_ne rfl rfl c_162
        obtain ⟨x_164, ex_164⟩ : ∃ y : Int32, L3_155 + Int32.ofInt 1 = y := ⟨_, rfl⟩
        have k_165 := ar_add (b := 1) rfl zi_1 ex_164.symm (by omega) (by omega)
        refine lv_iinc (v := x_164) (lv' := [(3, .int x_164), (2, .int L2_155), (0, .ref h0), (1, .int p0)]) hx hb dX12_weak_57 hl (k := 0) rfl ex_164 (by decide) rfl (fun ls hl => ?_)
        refine lv_goto (tgt := 15) hx hb dX12_weak_60 (by decide) ?_
        exact ih_155 (x_164, L2_155) _ _ _ ⟨(show 0 ≤ x_164.toInt ∧ x_164.toInt ≤ 8 from by omega), (show -1 ≤ L2_155.toInt ∧ L2_155.toInt ≤ 7 from by omega), rfl, rfl, lv_sub hl [0, 1, 2, 3] rfl⟩ (by show (2147483647 - x_164.toInt).toNat < (2147483647 - L3_155.toInt).toNat; omega)
      · skip
        have k_166 := kk_eq rfl rfl c_162
        refine lv_iload_n hx hb dX12_weak_35 rfl (lv_at hl 1 rfl) ?_
        refine lv_iconst (v := (-1)) hx hb dX12_weak_36 (by decide) ?_
        refine lv_icmp_eq (tgt := 55) hx hb dX12_weak_37 (by decide) (fun c_167 => ?_) (fun c_167 => ?_)
        · skip
          have k_168 := kk_eq rfl zi_m1 c_167
          refine lv_iload_n hx hb dX12_weak_55 rfl (lv_at hl 0 rfl) ?_
          refine lv_istore_n (lv' := [(2, .int L3_155), (3, .int L3_155), (0, .ref h0), (1, .int p0)]) hx hb dX12_weak_56 rfl hl (by decide) rfl (fun ls hl => ?_)
          obtain ⟨x_169, ex_169⟩ : ∃ y : Int32, L3_155 + Int32.ofInt 1 = y := ⟨_, rfl⟩
          have k_170 := ar_add (b := 1) rfl zi_1 ex_169.symm (by omega) (by omega)
          refine lv_iinc (v := x_169) (lv' := [(3, .int x_169), (2, .int L3_155), (0, .ref h0), (1, .int p0)]) hx hb dX12_weak_57 hl (k := 1) rfl ex_169 (by decide) rfl (fun ls hl => ?_)
          refine lv_goto (tgt := 15) hx hb dX12_weak_60 (by decide) ?_
          exact ih_155 (x_169, L3_155) _ _ _ ⟨(show 0 ≤ x_169.toInt ∧ x_169.toInt ≤ 8 from by omega), (show -1 ≤ L3_155.toInt ∧ L3_155.toInt ≤ 7 from by omega), rfl, rfl, lv_sub hl [0, 1, 2, 3] rfl⟩ (by show (2147483647 - x_169.toInt).toNat < (2147483647 - L3_155.toInt).toNat; omega)
        · skip
          have k_171 := kk_ne rfl zi_m1 c_167
          refine lv_aload_n hx hb dX12_weak_40 rfl (lv_at hl 2 rfl) ?_
          refine lv_iload_n hx hb dX12_weak_41 rfl (lv_at hl 0 rfl) ?_
          refine lv_iconst (v := 1) hx hb dX12_weak_42 (by decide) ?_
          have z_172 := zi_1
          refine cpVi (rest := []) ⟨hx, hb, hml, hown, hts⟩ hKN (hP.sub (ws' := [(h0, .inr (12, [.int m_thrown, .ref m_qworld, .ref m_qimages, .ref m_qhasImage, .ref m_qtape, .int m_taped, .ref m_qfive, .int m_size, .int m_at, .int m_from, .int m_token, .int m_value, .int m_faultKind, .int m_faultPlace, .ref m_qfresh, .int m_startOne, .int m_startOther, .int m_latest, .int m_leftBeats, .int m_signed, .int m_metMany, .ref m_qsums, .ref m_qpairs, .ref m_qgoesWith, .ref m_qsaid, .int m_saidMany, .int m_firstWait, .ref m_qfirstOrder, .int m_bundleFirst, .ref m_qtiredBy, .int m_tiredMany, .ref m_qmany, .ref m_qwidth, .ref m_qnumbers, .ref m_qmoving])), (m_qworld, .inl (cA 1, 122, .inl m_cworld))]) [0, 1] rfl) (g_X12_of l D cA h0 m_thrown m_qworld m_qimages m_qhasImage m_qtape m_taped m_qfive m_size m_at m_from m_token m_value m_faultKind m_faultPlace m_qfresh m_startOne m_startOther m_latest m_leftBeats m_signed m_metMany m_qsums m_qpairs m_qgoesWith m_qsaid m_saidMany m_firstWait m_qfirstOrder m_bundleFirst m_qtiredBy m_tiredMany m_qmany m_qwidth m_qnumbers m_qmoving m_cworld L3_155 1 (by omega) (by omega) (by omega) (by omega) (by omega) (by omega) (by omega) (by decide) a_m_cworld_0) (tb_V tw_1640 tw_1642 tw_50 tw_114 tw_1643) hdX12_of ⟨rfl, rfl, Nat.le_of_ble_eq_true rfl, Nat.le_of_ble_eq_true rfl⟩ ⟨Nat.le_of_ble_eq_true rfl, Nat.le_of_ble_eq_true rfl⟩ rfl rfl rfl hl.1 rfl (Nat.le_of_ble_eq_true rfl) dX12_weak_43 (fun r_173 hr_173 => ?_)
          obtain ⟨k_173_0_0, k_173_0_1⟩ := hr_173
          refine lv_aload_n hx hb dX12_weak_46 rfl (lv_at hl 2 rfl) ?_
          refine lv_iload_n hx hb dX12_weak_47 rfl (lv_at hl 1 rfl) ?_
          refine lv_iconst (v := 1) hx hb dX12_weak_48 (by decide) ?_
          refine cpVi (rest := [.int r_173]) ⟨hx, hb, hml, hown, hts⟩ hKN (hP.sub (ws' := [(h0, .inr (12, [.int m_thrown, .ref m_qworld, .ref m_qimages, .ref m_qhasImage, .ref m_qtape, .int m_taped, .ref m_qfive, .int m_size, .int m_at, .int m_from, .int m_token, .int m_value, .int m_faultKind, .int m_faultPlace, .ref m_qfresh, .int m_startOne, .int m_startOther, .int m_latest, .int m_leftBeats, .int m_signed, .int m_metMany, .ref m_qsums, .ref m_qpairs, .ref m_qgoesWith, .ref m_qsaid, .int m_saidMany, .int m_firstWait, .ref m_qfirstOrder, .int m_bundleFirst, .ref m_qtiredBy, .int m_tiredMany, .ref m_qmany, .ref m_qwidth, .ref m_qnumbers, .ref m_qmoving])), (m_qworld, .inl (cA 1, 122, .inl m_cworld))]) [0, 1] rfl) (g_X12_of l D cA h0 m_thrown m_qworld m_qimages m_qhasImage m_qtape m_taped m_qfive m_size m_at m_from m_token m_value m_faultKind m_faultPlace m_qfresh m_startOne m_startOther m_latest m_leftBeats m_signed m_metMany m_qsums m_qpairs m_qgoesWith m_qsaid m_saidMany m_firstWait m_qfirstOrder m_bundleFirst m_qtiredBy m_tiredMany m_qmany m_qwidth m_qnumbers m_qmoving m_cworld L2_155 1 (by omega) (by omega) (by omega) (by omega) (by omega) (by omega) (by omega) (by decide) a_m_cworld_0) (tb_V tw_1640 tw_1642 tw_50 tw_114 tw_1643) hdX12_of ⟨rfl, rfl, Nat.le_of_ble_eq_true rfl, Nat.le_of_ble_eq_true rfl⟩ ⟨Nat.le_of_ble_eq_true rfl, Nat.le_of_ble_eq_true rfl⟩ rfl rfl rfl hl.1 rfl (Nat.le_of_ble_eq_true rfl) dX12_weak_49 (fun r_174 hr_174 => ?_)
          obtain ⟨k_174_0_0, k_174_0_1⟩ := hr_174
          refine lv_icmp_ge (tgt := 57) hx hb dX12_weak_52 (by decide) (fun c_175 => ?_) (fun c_175 => ?_)
          · skip
            have k_176 := kk_le rfl rfl c_175
            obtain ⟨x_177, ex_177⟩ : ∃ y : Int32, L3_155 + Int32.ofInt 1 = y := ⟨_, rfl⟩
            have k_178 := ar_add (b := 1) rfl zi_1 ex_177.symm (by omega) (by omega)
            refine lv_iinc (v := x_177) (lv' := [(3, .int x_177), (2, .int L2_155), (0, .ref h0), (1, .int p0)]) hx hb dX12_weak_57 hl (k := 0) rfl ex_177 (by decide) rfl (fun ls hl => ?_)
            refine lv_goto (tgt := 15) hx hb dX12_weak_60 (by decide) ?_
            exact ih_155 (x_177, L2_155) _ _ _ ⟨(show 0 ≤ x_177.toInt ∧ x_177.toInt ≤ 8 from by omega), (show -1 ≤ L2_155.toInt ∧ L2_155.toInt ≤ 7 from by omega), rfl, rfl, lv_sub hl [0, 1, 2, 3] rfl⟩ (by show (2147483647 - x_177.toInt).toNat < (2147483647 - L3_155.toInt).toNat; omega)
          · skip
            have k_179 := kk_nle rfl rfl c_175
            refine lv_iload_n hx hb dX12_weak_55 rfl (lv_at hl 0 rfl) ?_
            refine lv_istore_n (lv' := [(2, .int L3_155), (3, .int L3_155), (0, .ref h0), (1, .int p0)]) hx hb dX12_weak_56 rfl hl (by decide) rfl (fun ls hl => ?_)
            obtain ⟨x_180, ex_180⟩ : ∃ y : Int32, L3_155 + Int32.ofInt 1 = y := ⟨_, rfl⟩
            have k_181 := ar_add (b := 1) rfl zi_1 ex_180.symm (by omega) (by omega)
            refine lv_iinc (v := x_180) (lv' := [(3, .int x_180), (2, .int L3_155), (0, .ref h0), (1, .int p0)]) hx hb dX12_weak_57 hl (k := 1) rfl ex_180 (by decide) rfl (fun ls hl => ?_)
            refine lv_goto (tgt := 15) hx hb dX12_weak_60 (by decide) ?_
            exact ih_155 (x_180, L3_155) _ _ _ ⟨(show 0 ≤ x_180.toInt ∧ x_180.toInt ≤ 8 from by omega), (show -1 ≤ L3_155.toInt ∧ L3_155.toInt ≤ 7 from by omega), rfl, rfl, lv_sub hl [0, 1, 2, 3] rfl⟩ (by show (2147483647 - x_180.toInt).toNat < (2147483647 - L3_155.toInt).toNat; omega)
  · skip
    refine lv_if_ne (tgt := 11) hx hb dX12_weak_5 (by decide) (fun c_182 => absurd (by decide) c_182) (fun c_182 => ?_)
    refine lv_bipush (v := (-2)) hx hb dX12_weak_8 (by decide) ?_
    exact W.iret (v := (-2)) hx hb hr (fun t ht hW => ⟨(-2), rfl, (show -2 ≤ ((-2) : Int32).toInt ∧ ((-2) : Int32).toInt ≤ 7 from by decide), ht⟩) (fun _ h => by cases h) dX12_weak_10
set_option maxHeartbeats 8000000 in
set_option maxRecDepth 100000 in
theorem g_X12_strong (l : Launch) (D : va_G) (cA : Nat → ClassId) (h0 : Nat) (m_thrown : Int32) (m_qworld : Nat) (m_qimages : Nat) (m_qhasImage : Nat) (m_qtape : Nat) (m_taped : Int32) (m_qfive : Nat) (m_size : Int32) (m_at : Int32) (m_from : Int32) (m_token : Int32) (m_value : Int32) (m_faultKind : Int32) (m_faultPlace : Int32) (m_qfresh : Nat) (m_startOne : Int32) (m_startOther : Int32) (m_latest : Int32) (m_leftBeats : Int32) (m_signed : Int32) (m_metMany : Int32) (m_qsums : Nat) (m_qpairs : Nat) (m_qgoesWith : Nat) (m_qsaid : Nat) (m_saidMany : Int32) (m_firstWait : Int32) (m_qfirstOrder : Nat) (m_bundleFirst : Int32) (m_qtiredBy : Nat) (m_tiredMany : Int32) (m_qmany : Nat) (m_qwidth : Nat) (m_qnumbers : Nat) (m_qmoving : Nat) (m_cworld : Nat → Int32) (p0 : Int32) (h_m_taped : 0 ≤ (m_taped : Int32).toInt ∧ (m_taped : Int32).toInt ≤ 800) (h_m_size : 0 ≤ (m_size : Int32).toInt ∧ (m_size : Int32).toInt ≤ 800) (h_m_at : 0 ≤ (m_at : Int32).toInt ∧ (m_at : Int32).toInt ≤ 800) (h_m_from : 0 ≤ (m_from : Int32).toInt ∧ (m_from : Int32).toInt ≤ 800) (h_m_saidMany : 0 ≤ (m_saidMany : Int32).toInt ∧ (m_saidMany : Int32).toInt ≤ 60) (h_m_tiredMany : 0 ≤ (m_tiredMany : Int32).toInt ∧ (m_tiredMany : Int32).toInt ≤ 240) (a_m_cworld_0 : WI m_cworld) : Met l yX12_strong (Cond.code yX12_strong cX12_strong 4 (some .int) :: TB) (rmd 2 0 0) (PP D cA [(h0, .inr (12, [.int m_thrown, .ref m_qworld, .ref m_qimages, .ref m_qhasImage, .ref m_qtape, .int m_taped, .ref m_qfive, .int m_size, .int m_at, .int m_from, .int m_token, .int m_value, .int m_faultKind, .int m_faultPlace, .ref m_qfresh, .int m_startOne, .int m_startOther, .int m_latest, .int m_leftBeats, .int m_signed, .int m_metMany, .ref m_qsums, .ref m_qpairs, .ref m_qgoesWith, .ref m_qsaid, .int m_saidMany, .int m_firstWait, .ref m_qfirstOrder, .int m_bundleFirst, .ref m_qtiredBy, .int m_tiredMany, .ref m_qmany, .ref m_qwidth, .ref m_qnumbers, .ref m_qmoving])), (m_qworld, .inl (cA 1, 122, .inl m_cworld))] [.ref h0, .int p0]) (vp_Si (fun r => -2 ≤ r.toInt ∧ r.toInt ≤ 7)) 0 0 (fun _ => False) := by
  refine Met.ofW (cc := cX12_strong) (maxL := 4) (ret := (some .int)) (by decide) rfl ?_
  intro p e s m args below meth c s₁ B hml hv
  obtain ⟨rfl, hP, hKN⟩ := hv
  have hx := B.exec
  have hb := B.bytes
  have hr := B.returns
  have hts : ∀ w ∈ TB, w.before _ s = true := fun w h => atoms_spec B.pre w (List.mem_cons_of_mem _ h)
  have hown : s.vm.findClass RX12 = some m.cls := findClass_of_methodNamed B.named
  have hlocks := B.notSynchronized
  have hl := lv_entry ([.ref h0, .int p0]) (n := 4) (Nat.le_of_ble_eq_true rfl)
  rw [lg_entry_eq]
  generalize (lg_sl ([.ref h0, .int p0]) ++ List.replicate (4 - (lg_sl ([.ref h0, .int p0])).length) Slot.unset).toArray = ls at hl ⊢
  have hl : lv_has ls 4 [(0, .ref h0), (1, .int p0)] := hl
  refine lv_aload_n hx hb dX12_strong_0 rfl (lv_at hl 0 rfl) ?_
  refine lv_iload_n hx hb dX12_strong_1 rfl (lv_at hl 1 rfl) ?_
  refine cpVi (rest := []) ⟨hx, hb, hml, hown, hts⟩ hKN (hP.sub (ws' := [(h0, .inr (12, [.int m_thrown, .ref m_qworld, .ref m_qimages, .ref m_qhasImage, .ref m_qtape, .int m_taped, .ref m_qfive, .int m_size, .int m_at, .int m_from, .int m_token, .int m_value, .int m_faultKind, .int m_faultPlace, .ref m_qfresh, .int m_startOne, .int m_startOther, .int m_latest, .int m_leftBeats, .int m_signed, .int m_metMany, .ref m_qsums, .ref m_qpairs, .ref m_qgoesWith, .ref m_qsaid, .int m_saidMany, .int m_firstWait, .ref m_qfirstOrder, .int m_bundleFirst, .ref m_qtiredBy, .int m_tiredMany, .ref m_qmany, .ref m_qwidth, .ref m_qnumbers, .ref m_qmoving])), (m_qworld, .inl (cA 1, 122, .inl m_cworld))]) [0, 1] rfl) (g_X12_isSide l D cA h0 m_thrown m_qworld m_qimages m_qhasImage m_qtape m_taped m_qfive m_size m_at m_from m_token m_value m_faultKind m_faultPlace m_qfresh m_startOne m_startOther m_latest m_leftBeats m_signed m_metMany m_qsums m_qpairs m_qgoesWith m_qsaid m_saidMany m_firstWait m_qfirstOrder m_bundleFirst m_qtiredBy m_tiredMany m_qmany m_qwidth m_qnumbers m_qmoving m_cworld p0 (by omega) (by omega) (by omega) (by omega) (by omega) (by omega) a_m_cworld_0) (tb_V tw_1660 tw_1662 tw_53 tw_114 tw_1663) hdX12_isSide ⟨rfl, rfl, Nat.le_of_ble_eq_true rfl, Nat.le_of_ble_eq_true rfl⟩ ⟨Nat.le_of_ble_eq_true rfl, Nat.le_of_ble_eq_true rfl⟩ rfl rfl rfl hl.1 rfl (Nat.le_of_ble_eq_true rfl) dX12_strong_2 (fun r_1 hr_1 => ?_)
  rcases hr_1 with ⟨k_1_0_0, k_1_0_1, k_1_0_2, k_1_0_3, k_1_0_4, k_1_0_5, rfl⟩ | rfl
  · skip
    refine lv_if_ne (tgt := 11) hx hb dX12_strong_5 (by decide) (fun c_2 => ?_) (fun c_2 => absurd c_2 (by decide))
    refine lv_iconst (v := (-1)) hx hb dX12_strong_11 (by decide) ?_
    refine lv_istore_n (lv' := [(2, .int (-1)), (0, .ref h0), (1, .int p0)]) hx hb dX12_strong_12 rfl hl (by decide) rfl (fun ls hl => ?_)
    refine lv_iconst (v := 0) hx hb dX12_strong_13 (by decide) ?_
    refine lv_istore_n (lv' := [(3, .int 0), (2, .int (-1)), (0, .ref h0), (1, .int p0)]) hx hb dX12_strong_14 rfl hl (by decide) rfl (fun ls hl => ?_)
    refine loopW (σ := Int32 × Int32) (fun _ => []) (fun ⟨L3_155, L2_155⟩ H locs ls => (0 ≤ L3_155.toInt ∧ L3_155.toInt ≤ 8) ∧ (-1 ≤ L2_155.toInt ∧ L2_155.toInt ≤ 7) ∧ H = s.heap ∧ locs = [] ∧ lv_has ls 4 [(3, .int L3_155), (2, .int L2_155), (0, .ref h0), (1, .int p0)]) (fun ⟨L3_155, L2_155⟩ => (2147483647 - L3_155.toInt).toNat) ?_ ((0, (-1)) : Int32 × Int32) ⟨(by decide), (by decide), rfl, rfl, hl⟩
    intro x_155 H locs ls hI_155 ih_155
    obtain ⟨L3_155, L2_155⟩ := x_155
    obtain ⟨k0_155, k1_155, rfl, rfl, hl⟩ := hI_155
    have hl : lv_has ls 4 [(3, .int L3_155), (2, .int L2_155), (0, .ref h0), (1, .int p0)] := hl
    refine lv_iload_n hx hb dX12_strong_15 rfl (lv_at hl 0 rfl) ?_
    refine lv_aload_n hx hb dX12_strong_16 rfl (lv_at hl 2 rfl) ?_
    refine va_get (D := D) (ci := 12) (v := .ref m_qworld) (C := RX12) (T := TX12) (N := 35) hx hb hts inX12 hown hKN.1 hP 0 rfl rfl 1 (by decide) (hts _ tw_1420) (fun _ h9 => h9) rfl dX12_strong_17 ?_
    refine lv_iconst (v := 4) hx hb dX12_strong_20 (by decide) ?_
    refine va_iald hx hb hKN.1 hP 1 1 rfl rfl (by unfold vp_in; decide) dX12_strong_21 ?_
    refine W.eq (g2 := F0 m 22 ls [.int (m_cworld 4), .int L3_155]) rfl ?_
    have k_156 := a_m_cworld_0.1.1.2.2.2.1 (4) (by decide) (by decide)
    refine lv_icmp_ge (tgt := 63) hx hb dX12_strong_22 (by decide) (fun c_157 => ?_) (fun c_157 => ?_)
    · skip
      have k_158 := kk_le rfl rfl c_157
      refine lv_iload_n hx hb dX12_strong_63 rfl (lv_at hl 1 rfl) ?_
      exact W.iret (v := L2_155) hx hb hr (fun t ht hW => ⟨L2_155, rfl, (show -2 ≤ L2_155.toInt ∧ L2_155.toInt ≤ 7 from by omega), ht⟩) (fun _ h => by cases h) dX12_strong_64
    · skip
      have k_159 := kk_nle rfl rfl c_157
      refine lv_aload_n hx hb dX12_strong_25 rfl (lv_at hl 2 rfl) ?_
      refine lv_iload_n hx hb dX12_strong_26 rfl (lv_at hl 0 rfl) ?_
      refine lv_iconst (v := 0) hx hb dX12_strong_27 (by decide) ?_
      have z_160 := zi_0
      refine cpVi (rest := []) ⟨hx, hb, hml, hown, hts⟩ hKN (hP.sub (ws' := [(h0, .inr (12, [.int m_thrown, .ref m_qworld, .ref m_qimages, .ref m_qhasImage, .ref m_qtape, .int m_taped, .ref m_qfive, .int m_size, .int m_at, .int m_from, .int m_token, .int m_value, .int m_faultKind, .int m_faultPlace, .ref m_qfresh, .int m_startOne, .int m_startOther, .int m_latest, .int m_leftBeats, .int m_signed, .int m_metMany, .ref m_qsums, .ref m_qpairs, .ref m_qgoesWith, .ref m_qsaid, .int m_saidMany, .int m_firstWait, .ref m_qfirstOrder, .int m_bundleFirst, .ref m_qtiredBy, .int m_tiredMany, .ref m_qmany, .ref m_qwidth, .ref m_qnumbers, .ref m_qmoving])), (m_qworld, .inl (cA 1, 122, .inl m_cworld))]) [0, 1] rfl) (g_X12_of l D cA h0 m_thrown m_qworld m_qimages m_qhasImage m_qtape m_taped m_qfive m_size m_at m_from m_token m_value m_faultKind m_faultPlace m_qfresh m_startOne m_startOther m_latest m_leftBeats m_signed m_metMany m_qsums m_qpairs m_qgoesWith m_qsaid m_saidMany m_firstWait m_qfirstOrder m_bundleFirst m_qtiredBy m_tiredMany m_qmany m_qwidth m_qnumbers m_qmoving m_cworld L3_155 0 (by omega) (by omega) (by omega) (by omega) (by omega) (by omega) (by omega) (by decide) a_m_cworld_0) (tb_V tw_1640 tw_1642 tw_50 tw_114 tw_1643) hdX12_of ⟨rfl, rfl, Nat.le_of_ble_eq_true rfl, Nat.le_of_ble_eq_true rfl⟩ ⟨Nat.le_of_ble_eq_true rfl, Nat.le_of_ble_eq_true rfl⟩ rfl rfl rfl hl.1 rfl (Nat.le_of_ble_eq_true rfl) dX12_strong_28 (fun r_161 hr_161 => ?_)
      obtain ⟨k_161_0_0, k_161_0_1⟩ := hr_161
      refine lv_iload_n hx hb dX12_strong_31 rfl (lv_at hl 3 rfl) ?_
      refine lv_icmp_ne (tgt := 57) hx hb dX12_strong_32 (by decide) (fun c_162 => ?_) (fun c_162 => ?_)
      · skip
        have k_163 := kk_ne rfl rfl c_162
        obtain ⟨x_164, ex_164⟩ : ∃ y : Int32, L3_155 + Int32.ofInt 1 = y := ⟨_, rfl⟩
        have k_165 := ar_add (b := 1) rfl zi_1 ex_164.symm (by omega) (by omega)
        refine lv_iinc (v := x_164) (lv' := [(3, .int x_164), (2, .int L2_155), (0, .ref h0), (1, .int p0)]) hx hb dX12_strong_57 hl (k := 0) rfl ex_164 (by decide) rfl (fun ls hl => ?_)
        refine lv_goto (tgt := 15) hx hb dX12_strong_60 (by decide) ?_
        exact ih_155 (x_164, L2_155) _ _ _ ⟨(show 0 ≤ x_164.toInt ∧ x_164.toInt ≤ 8 from by omega), (show -1 ≤ L2_155.toInt ∧ L2_155.toInt ≤ 7 from by omega), rfl, rfl, lv_sub hl [0, 1, 2, 3] rfl⟩ (by show (2147483647 - x_164.toInt).toNat < (2147483647 - L3_155.toInt).toNat; omega)
      · skip
        have k_166 := kk_eq rfl rfl c_162
        refine lv_iload_n hx hb dX12_strong_35 rfl (lv_at hl 1 rfl) ?_
        refine lv_iconst (v := (-1)) hx hb dX12_strong_36 (by decide) ?_
        refine lv_icmp_eq (tgt := 55) hx hb dX12_strong_37 (by decide) (fun c_167 => ?_) (fun c_167 => ?_)
        · skip
          have k_168 := kk_eq rfl zi_m1 c_167
          refine lv_iload_n hx hb dX12_strong_55 rfl (lv_at hl 0 rfl) ?_
          refine lv_istore_n (lv' := [(2, .int L3_155), (3, .int L3_155), (0, .ref h0), (1, .int p0)]) hx hb dX12_strong_56 rfl hl (by decide) rfl (fun ls hl => ?_)
          obtain ⟨x_169, ex_169⟩ : ∃ y : Int32, L3_155 + Int32.ofInt 1 = y := ⟨_, rfl⟩
          have k_170 := ar_add (b := 1) rfl zi_1 ex_169.symm (by omega) (by omega)
          refine lv_iinc (v := x_169) (lv' := [(3, .int x_169), (2, .int L3_155), (0, .ref h0), (1, .int p0)]) hx hb dX12_strong_57 hl (k := 1) rfl ex_169 (by decide) rfl (fun ls hl => ?_)
          refine lv_goto (tgt := 15) hx hb dX12_strong_60 (by decide) ?_
          exact ih_155 (x_169, L3_155) _ _ _ ⟨(show 0 ≤ x_169.toInt ∧ x_169.toInt ≤ 8 from by omega), (show -1 ≤ L3_155.toInt ∧ L3_155.toInt ≤ 7 from by omega), rfl, rfl, lv_sub hl [0, 1, 2, 3] rfl⟩ (by show (2147483647 - x_169.toInt).toNat < (2147483647 - L3_155.toInt).toNat; omega)
        · skip
          have k_171 := kk_ne rfl zi_m1 c_167
          refine lv_aload_n hx hb dX12_strong_40 rfl (lv_at hl 2 rfl) ?_
          refine lv_iload_n hx hb dX12_strong_41 rfl (lv_at hl 0 rfl) ?_
          refine lv_iconst (v := 1) hx hb dX12_strong_42 (by decide) ?_
          have z_172 := zi_1
          refine cpVi (rest := []) ⟨hx, hb, hml, hown, hts⟩ hKN (hP.sub (ws' := [(h0, .inr (12, [.int m_thrown, .ref m_qworld, .ref m_qimages, .ref m_qhasImage, .ref m_qtape, .int m_taped, .ref m_qfive, .int m_size, .int m_at, .int m_from, .int m_token, .int m_value, .int m_faultKind, .int m_faultPlace, .ref m_qfresh, .int m_startOne, .int m_startOther, .int m_latest, .int m_leftBeats, .int m_signed, .int m_metMany, .ref m_qsums, .ref m_qpairs, .ref m_qgoesWith, .ref m_qsaid, .int m_saidMany, .int m_firstWait, .ref m_qfirstOrder, .int m_bundleFirst, .ref m_qtiredBy, .int m_tiredMany, .ref m_qmany, .ref m_qwidth, .ref m_qnumbers, .ref m_qmoving])), (m_qworld, .inl (cA 1, 122, .inl m_cworld))]) [0, 1] rfl) (g_X12_of l D cA h0 m_thrown m_qworld m_qimages m_qhasImage m_qtape m_taped m_qfive m_size m_at m_from m_token m_value m_faultKind m_faultPlace m_qfresh m_startOne m_startOther m_latest m_leftBeats m_signed m_metMany m_qsums m_qpairs m_qgoesWith m_qsaid m_saidMany m_firstWait m_qfirstOrder m_bundleFirst m_qtiredBy m_tiredMany m_qmany m_qwidth m_qnumbers m_qmoving m_cworld L3_155 1 (by omega) (by omega) (by omega) (by omega) (by omega) (by omega) (by omega) (by decide) a_m_cworld_0) (tb_V tw_1640 tw_1642 tw_50 tw_114 tw_1643) hdX12_of ⟨rfl, rfl, Nat.le_of_ble_eq_true rfl, Nat.le_of_ble_eq_true rfl⟩ ⟨Nat.le_of_ble_eq_true rfl, Nat.le_of_ble_eq_true rfl⟩ rfl rfl rfl hl.1 rfl (Nat.le_of_ble_eq_true rfl) dX12_strong_43 (fun r_173 hr_173 => ?_)
          obtain ⟨k_173_0_0, k_173_0_1⟩ := hr_173
          refine lv_aload_n hx hb dX12_strong_46 rfl (lv_at hl 2 rfl) ?_
          refine lv_iload_n hx hb dX12_strong_47 rfl (lv_at hl 1 rfl) ?_
          refine lv_iconst (v := 1) hx hb dX12_strong_48 (by decide) ?_
          refine cpVi (rest := [.int r_173]) ⟨hx, hb, hml, hown, hts⟩ hKN (hP.sub (ws' := [(h0, .inr (12, [.int m_thrown, .ref m_qworld, .ref m_qimages, .ref m_qhasImage, .ref m_qtape, .int m_taped, .ref m_qfive, .int m_size, .int m_at, .int m_from, .int m_token, .int m_value, .int m_faultKind, .int m_faultPlace, .ref m_qfresh, .int m_startOne, .int m_startOther, .int m_latest, .int m_leftBeats, .int m_signed, .int m_metMany, .ref m_qsums, .ref m_qpairs, .ref m_qgoesWith, .ref m_qsaid, .int m_saidMany, .int m_firstWait, .ref m_qfirstOrder, .int m_bundleFirst, .ref m_qtiredBy, .int m_tiredMany, .ref m_qmany, .ref m_qwidth, .ref m_qnumbers, .ref m_qmoving])), (m_qworld, .inl (cA 1, 122, .inl m_cworld))]) [0, 1] rfl) (g_X12_of l D cA h0 m_thrown m_qworld m_qimages m_qhasImage m_qtape m_taped m_qfive m_size m_at m_from m_token m_value m_faultKind m_faultPlace m_qfresh m_startOne m_startOther m_latest m_leftBeats m_signed m_metMany m_qsums m_qpairs m_qgoesWith m_qsaid m_saidMany m_firstWait m_qfirstOrder m_bundleFirst m_qtiredBy m_tiredMany m_qmany m_qwidth m_qnumbers m_qmoving m_cworld L2_155 1 (by omega) (by omega) (by omega) (by omega) (by omega) (by omega) (by omega) (by decide) a_m_cworld_0) (tb_V tw_1640 tw_1642 tw_50 tw_114 tw_1643) hdX12_of ⟨rfl, rfl, Nat.le_of_ble_eq_true rfl, Nat.le_of_ble_eq_true rfl⟩ ⟨Nat.le_of_ble_eq_true rfl, Nat.le_of_ble_eq_true rfl⟩ rfl rfl rfl hl.1 rfl (Nat.le_of_ble_eq_true rfl) dX12_strong_49 (fun r_174 hr_174 => ?_)
          obtain ⟨k_174_0_0, k_174_0_1⟩ := hr_174
          refine lv_icmp_le (tgt := 57) hx hb dX12_strong_52 (by decide) (fun c_175 => ?_) (fun c_175 => ?_)
          · skip
            have k_176 := kk_le rfl rfl c_175
            obtain ⟨x_177, ex_177⟩ : ∃ y : Int32, L3_155 + Int32.ofInt 1 = y := ⟨_, rfl⟩
            have k_178 := ar_add (b := 1) rfl zi_1 ex_177.symm (by omega) (by omega)
            refine lv_iinc (v := x_177) (lv' := [(3, .int x_177), (2, .int L2_155), (0, .ref h0), (1, .int p0)]) hx hb dX12_strong_57 hl (k := 0) rfl ex_177 (by decide) rfl (fun ls hl => ?_)
            refine lv_goto (tgt := 15) hx hb dX12_strong_60 (by decide) ?_
            exact ih_155 (x_177, L2_155) _ _ _ ⟨(show 0 ≤ x_177.toInt ∧ x_177.toInt ≤ 8 from by omega), (show -1 ≤ L2_155.toInt ∧ L2_155.toInt ≤ 7 from by omega), rfl, rfl, lv_sub hl [0, 1, 2, 3] rfl⟩ (by show (2147483647 - x_177.toInt).toNat < (2147483647 - L3_155.toInt).toNat; omega)
          · skip
            have k_179 := kk_nle rfl rfl c_175
            refine lv_iload_n hx hb dX12_strong_55 rfl (lv_at hl 0 rfl) ?_
            refine lv_istore_n (lv' := [(2, .int L3_155), (3, .int L3_155), (0, .ref h0), (1, .int p0)]) hx hb dX12_strong_56 rfl hl (by decide) rfl (fun ls hl => ?_)
            obtain ⟨x_180, ex_180⟩ : ∃ y : Int32, L3_155 + Int32.ofInt 1 = y := ⟨_, rfl⟩
            have k_181 := ar_add (b := 1) rfl zi_1 ex_180.symm (by omega) (by omega)
            refine lv_iinc (v := x_180) (lv' := [(3, .int x_180), (2, .int L3_155), (0, .ref h0), (1, .int p0)]) hx hb dX12_strong_57 hl (k := 1) rfl ex_180 (by decide) rfl (fun ls hl => ?_)
            refine lv_goto (tgt := 15) hx hb dX12_strong_60 (by decide) ?_
            exact ih_155 (x_180, L3_155) _ _ _ ⟨(show 0 ≤ x_180.toInt ∧ x_180.toInt ≤ 8 from by omega), (show -1 ≤ L3_155.toInt ∧ L3_155.toInt ≤ 7 from by omega), rfl, rfl, lv_sub hl [0, 1, 2, 3] rfl⟩ (by show (2147483647 - x_180.toInt).toNat < (2147483647 - L3_155.toInt).toNat; omega)
  · skip
    refine lv_if_ne (tgt := 11) hx hb dX12_strong_5 (by decide) (fun c_182 => absurd (by decide) c_182) (fun c_182 => ?_)
    refine lv_bipush (v := (-2)) hx hb dX12_strong_8 (by decide) ?_
    exact W.iret (v := (-2)) hx hb hr (fun t ht hW => ⟨(-2), rfl, (show -2 ≤ ((-2) : Int32).toInt ∧ ((-2) : Int32).toInt ≤ 7 from by decide), ht⟩) (fun _ h => by cases h) dX12_strong_10
